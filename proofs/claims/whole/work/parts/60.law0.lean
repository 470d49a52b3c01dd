/-! ===== the law, call by call ===== -/
set_option maxHeartbeats 4000000 in
set_option maxRecDepth 100000 in
theorem law_section {p : Program} {l : Launch} {e : Env} {s : State} {m : MethodId} {below : List Frame} {meth : Method} {c : Code} {D : va_G} {E : Nat → Nat} {b L : Nat} {xs : Nat → Int32} (X : Cx p s m #[Value.ref b] meth c cL_law 4 wsL_law RL D E (fun q => s.heap.size ≤ q)) (hX : va_X b L xs s s.heap) (hbl : b < s.heap.size) (hbA : ¬ (fun q : Nat => s.heap.size ≤ q) b) (hL : L ≤ 3072) {i : Int} (h0 : 0 ≤ i) (hi : i + 6 ≤ L) {q r : Nat → Nat} {σ τ : St} (h : Bth σ τ) (k : ∀ σ' τ', Bth σ' τ' → JG p l e room_1 s m #[Value.ref b] below meth c D (fun q => s.heap.size ≤ q) 4 (lw_Z below #[Value.ref b] s) 600000 7302250 1043 [(0, .ref b), (1, .ref (q 0)), (2, .ref (r 0)), (3, .int (jI i))] [] (CW E q τ' ++ MW E r σ')) : JG p l e room_1 s m #[Value.ref b] below meth c D (fun q => s.heap.size ≤ q) 4 (lw_Z below #[Value.ref b] s) 600000 7302250 164 [(0, .ref b), (1, .ref (q 0)), (2, .ref (r 0)), (3, .int (jI i))] [] (CW E q τ ++ MW E r σ) := by
  refine n_aload_n (pc' := 165) X dL_law_164 rfl 1 rfl rfl ?_
  refine n_aload_n (pc' := 166) X dL_law_165 rfl 0 rfl rfl ?_
  refine n_iload_n (pc' := 167) X dL_law_166 rfl 3 rfl rfl ?_
  refine n_iconst (pc' := 168) X dL_law_167 rfl ?_
  refine n_iadd (pc' := 169) X dL_law_168 rfl ?_
  refine n_sld (pc' := 170) X hX hbl hbA dL_law_169 rfl hL (by omega) ?_
  refine n_callI (pc' := 173) (S := St) (As := [.int (jI (sx xs (i + 1)))]) (rest := []) X dL_law_170 rfl (kX5_section l D E q τ (sx xs (i + 1)) (h.1.1) (sx_r _ _)) (cwV 1 X.1.2.2.2.2 gL_law_X5_section rfl rfl rfl (by decide +kernel) ⟨Nat.le_of_ble_eq_true rfl, Nat.le_of_ble_eq_true rfl⟩) 0 rfl rfl rfl rfl (Nat.le_of_ble_eq_true rfl) ⟨Nat.le_of_ble_eq_true rfl, Nat.le_of_ble_eq_true rfl⟩ (fun rA t2 h5 => ?_)
  refine n_aload_n (pc' := 174) X dL_law_173 rfl 2 rfl rfl ?_
  refine n_aload_n (pc' := 175) X dL_law_174 rfl 0 rfl rfl ?_
  refine n_iload_n (pc' := 176) X dL_law_175 rfl 3 rfl rfl ?_
  refine n_iconst (pc' := 177) X dL_law_176 rfl ?_
  refine n_iadd (pc' := 178) X dL_law_177 rfl ?_
  refine n_sld (pc' := 179) X hX hbl hbA dL_law_178 rfl hL (by omega) ?_
  refine n_swap ?_
  refine n_callI (pc' := 182) (S := St) (As := [.int (jI (sx xs (i + 1)))]) (rest := [.int (jI rA)]) X dL_law_179 rfl (kX6_section l D E r σ (sx xs (i + 1)) (h.wf) (sx_r _ _)) (cwV 1 X.1.2.2.2.2 gL_law_X6_section rfl rfl rfl (by decide +kernel) ⟨Nat.le_of_ble_eq_true rfl, Nat.le_of_ble_eq_true rfl⟩) 0 rfl rfl rfl rfl (Nat.le_of_ble_eq_true rfl) ⟨Nat.le_of_ble_eq_true rfl, Nat.le_of_ble_eq_true rfl⟩ (fun rB s2 h6 => ?_)
  refine n_swap ?_
  obtain ⟨ee, hB⟩ := pm_section h h5 h6
  subst ee
  refine n_icmp_same (tgt := 1043) X dL_law_182 (by decide) ?_
  exact k _ _ hB
set_option maxHeartbeats 4000000 in
set_option maxRecDepth 100000 in
theorem law_beats {p : Program} {l : Launch} {e : Env} {s : State} {m : MethodId} {below : List Frame} {meth : Method} {c : Code} {D : va_G} {E : Nat → Nat} {b L : Nat} {xs : Nat → Int32} (X : Cx p s m #[Value.ref b] meth c cL_law 4 wsL_law RL D E (fun q => s.heap.size ≤ q)) (hX : va_X b L xs s s.heap) (hbl : b < s.heap.size) (hbA : ¬ (fun q : Nat => s.heap.size ≤ q) b) (hL : L ≤ 3072) {i : Int} (h0 : 0 ≤ i) (hi : i + 6 ≤ L) {q r : Nat → Nat} {σ τ : St} (h : Bth σ τ) (k : ∀ σ' τ', Bth σ' τ' → JG p l e room_1 s m #[Value.ref b] below meth c D (fun q => s.heap.size ≤ q) 4 (lw_Z below #[Value.ref b] s) 600000 7302250 1043 [(0, .ref b), (1, .ref (q 0)), (2, .ref (r 0)), (3, .int (jI i))] [] (CW E q τ' ++ MW E r σ')) : JG p l e room_1 s m #[Value.ref b] below meth c D (fun q => s.heap.size ≤ q) 4 (lw_Z below #[Value.ref b] s) 600000 7302250 187 [(0, .ref b), (1, .ref (q 0)), (2, .ref (r 0)), (3, .int (jI i))] [] (CW E q τ ++ MW E r σ) := by
  refine n_aload_n (pc' := 188) X dL_law_187 rfl 1 rfl rfl ?_
  refine n_aload_n (pc' := 189) X dL_law_188 rfl 0 rfl rfl ?_
  refine n_iload_n (pc' := 190) X dL_law_189 rfl 3 rfl rfl ?_
  refine n_iconst (pc' := 191) X dL_law_190 rfl ?_
  refine n_iadd (pc' := 192) X dL_law_191 rfl ?_
  refine n_sld (pc' := 193) X hX hbl hbA dL_law_192 rfl hL (by omega) ?_
  refine n_aload_n (pc' := 194) X dL_law_193 rfl 0 rfl rfl ?_
  refine n_iload_n (pc' := 195) X dL_law_194 rfl 3 rfl rfl ?_
  refine n_iconst (pc' := 196) X dL_law_195 rfl ?_
  refine n_iadd (pc' := 197) X dL_law_196 rfl ?_
  refine n_sld (pc' := 198) X hX hbl hbA dL_law_197 rfl hL (by omega) ?_
  refine n_callI (pc' := 201) (S := St) (As := [.int (jI (sx xs (i + 1))), .int (jI (sx xs (i + 2)))]) (rest := []) X dL_law_198 rfl (kX5_beats l D E q τ (sx xs (i + 1)) (sx xs (i + 2)) (h.1.1) ⟨sx_r _ _, sx_r _ _⟩) (cwV 2 X.1.2.2.2.2 gL_law_X5_beats rfl rfl rfl (by decide +kernel) ⟨Nat.le_of_ble_eq_true rfl, Nat.le_of_ble_eq_true rfl⟩) 0 rfl rfl rfl rfl (Nat.le_of_ble_eq_true rfl) ⟨Nat.le_of_ble_eq_true rfl, Nat.le_of_ble_eq_true rfl⟩ (fun rA t2 h5 => ?_)
  refine n_aload_n (pc' := 202) X dL_law_201 rfl 2 rfl rfl ?_
  refine n_aload_n (pc' := 203) X dL_law_202 rfl 0 rfl rfl ?_
  refine n_iload_n (pc' := 204) X dL_law_203 rfl 3 rfl rfl ?_
  refine n_iconst (pc' := 205) X dL_law_204 rfl ?_
  refine n_iadd (pc' := 206) X dL_law_205 rfl ?_
  refine n_sld (pc' := 207) X hX hbl hbA dL_law_206 rfl hL (by omega) ?_
  refine n_aload_n (pc' := 208) X dL_law_207 rfl 0 rfl rfl ?_
  refine n_iload_n (pc' := 209) X dL_law_208 rfl 3 rfl rfl ?_
  refine n_iconst (pc' := 210) X dL_law_209 rfl ?_
  refine n_iadd (pc' := 211) X dL_law_210 rfl ?_
  refine n_sld (pc' := 212) X hX hbl hbA dL_law_211 rfl hL (by omega) ?_
  refine n_swap ?_
  refine n_callI (pc' := 215) (S := St) (As := [.int (jI (sx xs (i + 1))), .int (jI (sx xs (i + 2)))]) (rest := [.int (jI rA)]) X dL_law_212 rfl (kX6_beats l D E r σ (sx xs (i + 1)) (sx xs (i + 2)) (h.wf) ⟨sx_r _ _, sx_r _ _⟩) (cwV 2 X.1.2.2.2.2 gL_law_X6_beats rfl rfl rfl (by decide +kernel) ⟨Nat.le_of_ble_eq_true rfl, Nat.le_of_ble_eq_true rfl⟩) 0 rfl rfl rfl rfl (Nat.le_of_ble_eq_true rfl) ⟨Nat.le_of_ble_eq_true rfl, Nat.le_of_ble_eq_true rfl⟩ (fun rB s2 h6 => ?_)
  refine n_swap ?_
  obtain ⟨ee, hB⟩ := pm_beats h h5 h6
  subst ee
  refine n_icmp_same (tgt := 1043) X dL_law_215 (by decide) ?_
  exact k _ _ hB
set_option maxHeartbeats 4000000 in
set_option maxRecDepth 100000 in
theorem law_start {p : Program} {l : Launch} {e : Env} {s : State} {m : MethodId} {below : List Frame} {meth : Method} {c : Code} {D : va_G} {E : Nat → Nat} {b L : Nat} {xs : Nat → Int32} (X : Cx p s m #[Value.ref b] meth c cL_law 4 wsL_law RL D E (fun q => s.heap.size ≤ q)) (hX : va_X b L xs s s.heap) (hbl : b < s.heap.size) (hbA : ¬ (fun q : Nat => s.heap.size ≤ q) b) (hL : L ≤ 3072) {i : Int} (h0 : 0 ≤ i) (hi : i + 6 ≤ L) {q r : Nat → Nat} {σ τ : St} (h : Bth σ τ) (k : ∀ σ' τ', Bth σ' τ' → JG p l e room_1 s m #[Value.ref b] below meth c D (fun q => s.heap.size ≤ q) 4 (lw_Z below #[Value.ref b] s) 600000 7302250 1043 [(0, .ref b), (1, .ref (q 0)), (2, .ref (r 0)), (3, .int (jI i))] [] (CW E q τ' ++ MW E r σ')) : JG p l e room_1 s m #[Value.ref b] below meth c D (fun q => s.heap.size ≤ q) 4 (lw_Z below #[Value.ref b] s) 600000 7302250 220 [(0, .ref b), (1, .ref (q 0)), (2, .ref (r 0)), (3, .int (jI i))] [] (CW E q τ ++ MW E r σ) := by
  refine n_aload_n (pc' := 221) X dL_law_220 rfl 1 rfl rfl ?_
  refine n_aload_n (pc' := 222) X dL_law_221 rfl 0 rfl rfl ?_
  refine n_iload_n (pc' := 223) X dL_law_222 rfl 3 rfl rfl ?_
  refine n_iconst (pc' := 224) X dL_law_223 rfl ?_
  refine n_iadd (pc' := 225) X dL_law_224 rfl ?_
  refine n_sld (pc' := 226) X hX hbl hbA dL_law_225 rfl hL (by omega) ?_
  refine n_callI (pc' := 229) (S := St) (As := [.int (jI (sx xs (i + 1)))]) (rest := []) X dL_law_226 rfl (kX5_start l D E q τ (sx xs (i + 1)) (h.1.1) (sx_r _ _)) (cwV 1 X.1.2.2.2.2 gL_law_X5_start rfl rfl rfl (by decide +kernel) ⟨Nat.le_of_ble_eq_true rfl, Nat.le_of_ble_eq_true rfl⟩) 0 rfl rfl rfl rfl (Nat.le_of_ble_eq_true rfl) ⟨Nat.le_of_ble_eq_true rfl, Nat.le_of_ble_eq_true rfl⟩ (fun rA t2 h5 => ?_)
  refine n_aload_n (pc' := 230) X dL_law_229 rfl 2 rfl rfl ?_
  refine n_aload_n (pc' := 231) X dL_law_230 rfl 0 rfl rfl ?_
  refine n_iload_n (pc' := 232) X dL_law_231 rfl 3 rfl rfl ?_
  refine n_iconst (pc' := 233) X dL_law_232 rfl ?_
  refine n_iadd (pc' := 234) X dL_law_233 rfl ?_
  refine n_sld (pc' := 235) X hX hbl hbA dL_law_234 rfl hL (by omega) ?_
  refine n_swap ?_
  refine n_callI (pc' := 238) (S := St) (As := [.int (jI (sx xs (i + 1)))]) (rest := [.int (jI rA)]) X dL_law_235 rfl (kX6_start l D E r σ (sx xs (i + 1)) (h.wf) (sx_r _ _)) (cwV 1 X.1.2.2.2.2 gL_law_X6_start rfl rfl rfl (by decide +kernel) ⟨Nat.le_of_ble_eq_true rfl, Nat.le_of_ble_eq_true rfl⟩) 0 rfl rfl rfl rfl (Nat.le_of_ble_eq_true rfl) ⟨Nat.le_of_ble_eq_true rfl, Nat.le_of_ble_eq_true rfl⟩ (fun rB s2 h6 => ?_)
  refine n_swap ?_
  obtain ⟨ee, hB⟩ := pm_start h h5 h6
  subst ee
  refine n_icmp_same (tgt := 1043) X dL_law_238 (by decide) ?_
  exact k _ _ hB
set_option maxHeartbeats 4000000 in
set_option maxRecDepth 100000 in
theorem law_tie {p : Program} {l : Launch} {e : Env} {s : State} {m : MethodId} {below : List Frame} {meth : Method} {c : Code} {D : va_G} {E : Nat → Nat} {b L : Nat} {xs : Nat → Int32} (X : Cx p s m #[Value.ref b] meth c cL_law 4 wsL_law RL D E (fun q => s.heap.size ≤ q)) (hX : va_X b L xs s s.heap) (hbl : b < s.heap.size) (hbA : ¬ (fun q : Nat => s.heap.size ≤ q) b) (hL : L ≤ 3072) {i : Int} (h0 : 0 ≤ i) (hi : i + 6 ≤ L) {q r : Nat → Nat} {σ τ : St} (h : Bth σ τ) (k : ∀ σ' τ', Bth σ' τ' → JG p l e room_1 s m #[Value.ref b] below meth c D (fun q => s.heap.size ≤ q) 4 (lw_Z below #[Value.ref b] s) 600000 7302250 1043 [(0, .ref b), (1, .ref (q 0)), (2, .ref (r 0)), (3, .int (jI i))] [] (CW E q τ' ++ MW E r σ')) : JG p l e room_1 s m #[Value.ref b] below meth c D (fun q => s.heap.size ≤ q) 4 (lw_Z below #[Value.ref b] s) 600000 7302250 243 [(0, .ref b), (1, .ref (q 0)), (2, .ref (r 0)), (3, .int (jI i))] [] (CW E q τ ++ MW E r σ) := by
  refine n_aload_n (pc' := 244) X dL_law_243 rfl 1 rfl rfl ?_
  refine n_aload_n (pc' := 245) X dL_law_244 rfl 0 rfl rfl ?_
  refine n_iload_n (pc' := 246) X dL_law_245 rfl 3 rfl rfl ?_
  refine n_iconst (pc' := 247) X dL_law_246 rfl ?_
  refine n_iadd (pc' := 248) X dL_law_247 rfl ?_
  refine n_sld (pc' := 249) X hX hbl hbA dL_law_248 rfl hL (by omega) ?_
  refine n_aload_n (pc' := 250) X dL_law_249 rfl 0 rfl rfl ?_
  refine n_iload_n (pc' := 251) X dL_law_250 rfl 3 rfl rfl ?_
  refine n_iconst (pc' := 252) X dL_law_251 rfl ?_
  refine n_iadd (pc' := 253) X dL_law_252 rfl ?_
  refine n_sld (pc' := 254) X hX hbl hbA dL_law_253 rfl hL (by omega) ?_
  refine n_aload_n (pc' := 255) X dL_law_254 rfl 0 rfl rfl ?_
  refine n_iload_n (pc' := 256) X dL_law_255 rfl 3 rfl rfl ?_
  refine n_iconst (pc' := 257) X dL_law_256 rfl ?_
  refine n_iadd (pc' := 258) X dL_law_257 rfl ?_
  refine n_sld (pc' := 259) X hX hbl hbA dL_law_258 rfl hL (by omega) ?_
  refine n_aload_n (pc' := 260) X dL_law_259 rfl 0 rfl rfl ?_
  refine n_iload_n (pc' := 261) X dL_law_260 rfl 3 rfl rfl ?_
  refine n_iconst (pc' := 262) X dL_law_261 rfl ?_
  refine n_iadd (pc' := 263) X dL_law_262 rfl ?_
  refine n_sld (pc' := 264) X hX hbl hbA dL_law_263 rfl hL (by omega) ?_
  refine n_aload_n (pc' := 265) X dL_law_264 rfl 0 rfl rfl ?_
  refine n_iload_n (pc' := 266) X dL_law_265 rfl 3 rfl rfl ?_
  refine n_iconst (pc' := 267) X dL_law_266 rfl ?_
  refine n_iadd (pc' := 268) X dL_law_267 rfl ?_
  refine n_sld (pc' := 269) X hX hbl hbA dL_law_268 rfl hL (by omega) ?_
  refine n_callI (pc' := 272) (S := St) (As := [.int (jI (sx xs (i + 1))), .int (jI (sx xs (i + 2))), .int (jI (sx xs (i + 3))), .int (jI (sx xs (i + 4))), .int (jI (sx xs (i + 5)))]) (rest := []) X dL_law_269 rfl (kX5_tie l D E q τ (sx xs (i + 1)) (sx xs (i + 2)) (sx xs (i + 3)) (sx xs (i + 4)) (sx xs (i + 5)) (h.1.1) ⟨sx_r _ _, sx_r _ _, sx_r _ _, sx_r _ _, sx_r _ _⟩) (cwV 5 X.1.2.2.2.2 gL_law_X5_tie rfl rfl rfl (by decide +kernel) ⟨Nat.le_of_ble_eq_true rfl, Nat.le_of_ble_eq_true rfl⟩) 0 rfl rfl rfl rfl (Nat.le_of_ble_eq_true rfl) ⟨Nat.le_of_ble_eq_true rfl, Nat.le_of_ble_eq_true rfl⟩ (fun rA t2 h5 => ?_)
  refine n_aload_n (pc' := 273) X dL_law_272 rfl 2 rfl rfl ?_
  refine n_aload_n (pc' := 274) X dL_law_273 rfl 0 rfl rfl ?_
  refine n_iload_n (pc' := 275) X dL_law_274 rfl 3 rfl rfl ?_
  refine n_iconst (pc' := 276) X dL_law_275 rfl ?_
  refine n_iadd (pc' := 277) X dL_law_276 rfl ?_
  refine n_sld (pc' := 278) X hX hbl hbA dL_law_277 rfl hL (by omega) ?_
  refine n_aload_n (pc' := 279) X dL_law_278 rfl 0 rfl rfl ?_
  refine n_iload_n (pc' := 280) X dL_law_279 rfl 3 rfl rfl ?_
  refine n_iconst (pc' := 281) X dL_law_280 rfl ?_
  refine n_iadd (pc' := 282) X dL_law_281 rfl ?_
  refine n_sld (pc' := 283) X hX hbl hbA dL_law_282 rfl hL (by omega) ?_
  refine n_aload_n (pc' := 284) X dL_law_283 rfl 0 rfl rfl ?_
  refine n_iload_n (pc' := 285) X dL_law_284 rfl 3 rfl rfl ?_
  refine n_iconst (pc' := 286) X dL_law_285 rfl ?_
  refine n_iadd (pc' := 287) X dL_law_286 rfl ?_
  refine n_sld (pc' := 288) X hX hbl hbA dL_law_287 rfl hL (by omega) ?_
  refine n_aload_n (pc' := 289) X dL_law_288 rfl 0 rfl rfl ?_
  refine n_iload_n (pc' := 290) X dL_law_289 rfl 3 rfl rfl ?_
  refine n_iconst (pc' := 291) X dL_law_290 rfl ?_
  refine n_iadd (pc' := 292) X dL_law_291 rfl ?_
  refine n_sld (pc' := 293) X hX hbl hbA dL_law_292 rfl hL (by omega) ?_
  refine n_aload_n (pc' := 294) X dL_law_293 rfl 0 rfl rfl ?_
  refine n_iload_n (pc' := 295) X dL_law_294 rfl 3 rfl rfl ?_
  refine n_iconst (pc' := 296) X dL_law_295 rfl ?_
  refine n_iadd (pc' := 297) X dL_law_296 rfl ?_
  refine n_sld (pc' := 298) X hX hbl hbA dL_law_297 rfl hL (by omega) ?_
  refine n_swap ?_
  refine n_callI (pc' := 301) (S := St) (As := [.int (jI (sx xs (i + 1))), .int (jI (sx xs (i + 2))), .int (jI (sx xs (i + 3))), .int (jI (sx xs (i + 4))), .int (jI (sx xs (i + 5)))]) (rest := [.int (jI rA)]) X dL_law_298 rfl (kX6_tie l D E r σ (sx xs (i + 1)) (sx xs (i + 2)) (sx xs (i + 3)) (sx xs (i + 4)) (sx xs (i + 5)) (h.wf) ⟨sx_r _ _, sx_r _ _, sx_r _ _, sx_r _ _, sx_r _ _⟩) (cwV 5 X.1.2.2.2.2 gL_law_X6_tie rfl rfl rfl (by decide +kernel) ⟨Nat.le_of_ble_eq_true rfl, Nat.le_of_ble_eq_true rfl⟩) 0 rfl rfl rfl rfl (Nat.le_of_ble_eq_true rfl) ⟨Nat.le_of_ble_eq_true rfl, Nat.le_of_ble_eq_true rfl⟩ (fun rB s2 h6 => ?_)
  refine n_swap ?_
  obtain ⟨ee, hB⟩ := pm_tie h h5 h6
  subst ee
  refine n_icmp_same (tgt := 1043) X dL_law_301 (by decide) ?_
  exact k _ _ hB
set_option maxHeartbeats 4000000 in
set_option maxRecDepth 100000 in
theorem law_ear {p : Program} {l : Launch} {e : Env} {s : State} {m : MethodId} {below : List Frame} {meth : Method} {c : Code} {D : va_G} {E : Nat → Nat} {b L : Nat} {xs : Nat → Int32} (X : Cx p s m #[Value.ref b] meth c cL_law 4 wsL_law RL D E (fun q => s.heap.size ≤ q)) (hX : va_X b L xs s s.heap) (hbl : b < s.heap.size) (hbA : ¬ (fun q : Nat => s.heap.size ≤ q) b) (hL : L ≤ 3072) {i : Int} (h0 : 0 ≤ i) (hi : i + 6 ≤ L) {q r : Nat → Nat} {σ τ : St} (h : Bth σ τ) (k : ∀ σ' τ', Bth σ' τ' → JG p l e room_1 s m #[Value.ref b] below meth c D (fun q => s.heap.size ≤ q) 4 (lw_Z below #[Value.ref b] s) 600000 7302250 1043 [(0, .ref b), (1, .ref (q 0)), (2, .ref (r 0)), (3, .int (jI i))] [] (CW E q τ' ++ MW E r σ')) : JG p l e room_1 s m #[Value.ref b] below meth c D (fun q => s.heap.size ≤ q) 4 (lw_Z below #[Value.ref b] s) 600000 7302250 306 [(0, .ref b), (1, .ref (q 0)), (2, .ref (r 0)), (3, .int (jI i))] [] (CW E q τ ++ MW E r σ) := by
  refine n_aload_n (pc' := 307) X dL_law_306 rfl 1 rfl rfl ?_
  refine n_aload_n (pc' := 308) X dL_law_307 rfl 0 rfl rfl ?_
  refine n_iload_n (pc' := 309) X dL_law_308 rfl 3 rfl rfl ?_
  refine n_iconst (pc' := 310) X dL_law_309 rfl ?_
  refine n_iadd (pc' := 311) X dL_law_310 rfl ?_
  refine n_sld (pc' := 312) X hX hbl hbA dL_law_311 rfl hL (by omega) ?_
  refine n_aload_n (pc' := 313) X dL_law_312 rfl 0 rfl rfl ?_
  refine n_iload_n (pc' := 314) X dL_law_313 rfl 3 rfl rfl ?_
  refine n_iconst (pc' := 315) X dL_law_314 rfl ?_
  refine n_iadd (pc' := 316) X dL_law_315 rfl ?_
  refine n_sld (pc' := 317) X hX hbl hbA dL_law_316 rfl hL (by omega) ?_
  refine n_callI (pc' := 320) (S := St) (As := [.int (jI (sx xs (i + 1))), .int (jI (sx xs (i + 2)))]) (rest := []) X dL_law_317 rfl (kX5_ear l D E q τ (sx xs (i + 1)) (sx xs (i + 2)) (h.1.1) ⟨sx_r _ _, sx_r _ _⟩) (cwV 2 X.1.2.2.2.2 gL_law_X5_ear rfl rfl rfl (by decide +kernel) ⟨Nat.le_of_ble_eq_true rfl, Nat.le_of_ble_eq_true rfl⟩) 0 rfl rfl rfl rfl (Nat.le_of_ble_eq_true rfl) ⟨Nat.le_of_ble_eq_true rfl, Nat.le_of_ble_eq_true rfl⟩ (fun rA t2 h5 => ?_)
  refine n_aload_n (pc' := 321) X dL_law_320 rfl 2 rfl rfl ?_
  refine n_aload_n (pc' := 322) X dL_law_321 rfl 0 rfl rfl ?_
  refine n_iload_n (pc' := 323) X dL_law_322 rfl 3 rfl rfl ?_
  refine n_iconst (pc' := 324) X dL_law_323 rfl ?_
  refine n_iadd (pc' := 325) X dL_law_324 rfl ?_
  refine n_sld (pc' := 326) X hX hbl hbA dL_law_325 rfl hL (by omega) ?_
  refine n_aload_n (pc' := 327) X dL_law_326 rfl 0 rfl rfl ?_
  refine n_iload_n (pc' := 328) X dL_law_327 rfl 3 rfl rfl ?_
  refine n_iconst (pc' := 329) X dL_law_328 rfl ?_
  refine n_iadd (pc' := 330) X dL_law_329 rfl ?_
  refine n_sld (pc' := 331) X hX hbl hbA dL_law_330 rfl hL (by omega) ?_
  refine n_swap ?_
  refine n_callI (pc' := 334) (S := St) (As := [.int (jI (sx xs (i + 1))), .int (jI (sx xs (i + 2)))]) (rest := [.int (jI rA)]) X dL_law_331 rfl (kX6_ear l D E r σ (sx xs (i + 1)) (sx xs (i + 2)) (h.wf) ⟨sx_r _ _, sx_r _ _⟩) (cwV 2 X.1.2.2.2.2 gL_law_X6_ear rfl rfl rfl (by decide +kernel) ⟨Nat.le_of_ble_eq_true rfl, Nat.le_of_ble_eq_true rfl⟩) 0 rfl rfl rfl rfl (Nat.le_of_ble_eq_true rfl) ⟨Nat.le_of_ble_eq_true rfl, Nat.le_of_ble_eq_true rfl⟩ (fun rB s2 h6 => ?_)
  refine n_swap ?_
  obtain ⟨ee, hB⟩ := pm_ear h h5 h6
  subst ee
  refine n_icmp_same (tgt := 1043) X dL_law_334 (by decide) ?_
  exact k _ _ hB
set_option maxHeartbeats 4000000 in
set_option maxRecDepth 100000 in
theorem law_untie {p : Program} {l : Launch} {e : Env} {s : State} {m : MethodId} {below : List Frame} {meth : Method} {c : Code} {D : va_G} {E : Nat → Nat} {b L : Nat} {xs : Nat → Int32} (X : Cx p s m #[Value.ref b] meth c cL_law 4 wsL_law RL D E (fun q => s.heap.size ≤ q)) (hX : va_X b L xs s s.heap) (hbl : b < s.heap.size) (hbA : ¬ (fun q : Nat => s.heap.size ≤ q) b) (hL : L ≤ 3072) {i : Int} (h0 : 0 ≤ i) (hi : i + 6 ≤ L) {q r : Nat → Nat} {σ τ : St} (h : Bth σ τ) (k : ∀ σ' τ', Bth σ' τ' → JG p l e room_1 s m #[Value.ref b] below meth c D (fun q => s.heap.size ≤ q) 4 (lw_Z below #[Value.ref b] s) 600000 7302250 1043 [(0, .ref b), (1, .ref (q 0)), (2, .ref (r 0)), (3, .int (jI i))] [] (CW E q τ' ++ MW E r σ')) : JG p l e room_1 s m #[Value.ref b] below meth c D (fun q => s.heap.size ≤ q) 4 (lw_Z below #[Value.ref b] s) 600000 7302250 339 [(0, .ref b), (1, .ref (q 0)), (2, .ref (r 0)), (3, .int (jI i))] [] (CW E q τ ++ MW E r σ) := by
  refine n_aload_n (pc' := 340) X dL_law_339 rfl 1 rfl rfl ?_
  refine n_aload_n (pc' := 341) X dL_law_340 rfl 0 rfl rfl ?_
  refine n_iload_n (pc' := 342) X dL_law_341 rfl 3 rfl rfl ?_
  refine n_iconst (pc' := 343) X dL_law_342 rfl ?_
  refine n_iadd (pc' := 344) X dL_law_343 rfl ?_
  refine n_sld (pc' := 345) X hX hbl hbA dL_law_344 rfl hL (by omega) ?_
  refine n_callI (pc' := 348) (S := St) (As := [.int (jI (sx xs (i + 1)))]) (rest := []) X dL_law_345 rfl (kX5_untie l D E q τ (sx xs (i + 1)) (h.1.1) (sx_r _ _)) (cwV 1 X.1.2.2.2.2 gL_law_X5_untie rfl rfl rfl (by decide +kernel) ⟨Nat.le_of_ble_eq_true rfl, Nat.le_of_ble_eq_true rfl⟩) 0 rfl rfl rfl rfl (Nat.le_of_ble_eq_true rfl) ⟨Nat.le_of_ble_eq_true rfl, Nat.le_of_ble_eq_true rfl⟩ (fun rA t2 h5 => ?_)
  refine n_aload_n (pc' := 349) X dL_law_348 rfl 2 rfl rfl ?_
  refine n_aload_n (pc' := 350) X dL_law_349 rfl 0 rfl rfl ?_
  refine n_iload_n (pc' := 351) X dL_law_350 rfl 3 rfl rfl ?_
  refine n_iconst (pc' := 352) X dL_law_351 rfl ?_
  refine n_iadd (pc' := 353) X dL_law_352 rfl ?_
  refine n_sld (pc' := 354) X hX hbl hbA dL_law_353 rfl hL (by omega) ?_
  refine n_swap ?_
  refine n_callI (pc' := 357) (S := St) (As := [.int (jI (sx xs (i + 1)))]) (rest := [.int (jI rA)]) X dL_law_354 rfl (kX6_untie l D E r σ (sx xs (i + 1)) (h.wf) (sx_r _ _)) (cwV 1 X.1.2.2.2.2 gL_law_X6_untie rfl rfl rfl (by decide +kernel) ⟨Nat.le_of_ble_eq_true rfl, Nat.le_of_ble_eq_true rfl⟩) 0 rfl rfl rfl rfl (Nat.le_of_ble_eq_true rfl) ⟨Nat.le_of_ble_eq_true rfl, Nat.le_of_ble_eq_true rfl⟩ (fun rB s2 h6 => ?_)
  refine n_swap ?_
  obtain ⟨ee, hB⟩ := pm_untie h h5 h6
  subst ee
  refine n_icmp_same (tgt := 1043) X dL_law_357 (by decide) ?_
  exact k _ _ hB
