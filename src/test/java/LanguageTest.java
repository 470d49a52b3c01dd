import java.lang.reflect.Constructor;
import java.lang.reflect.Field;
import java.lang.reflect.Member;
import java.lang.reflect.Method;
import java.lang.reflect.Modifier;
import java.nio.file.Files;
import java.nio.file.Path;
import java.util.ArrayList;
import java.util.List;
import java.util.Set;
import java.util.TreeSet;
import java.util.regex.Matcher;
import java.util.regex.Pattern;

/** The face of the document, and those rules of LANGUAGE.md that can be read off. */
public final class LanguageTest {
    private static final Due DUE = new Due("LanguageTest");
    private static final Set<String> FACE = Set.of(
        "int section(int)", "int beats(int,int)", "int start(int)", "int tie(int,int,int,int,int)",
        "int ear(int,int)", "int untie(int)", "int clear()", "int ticks(int)", "int ofSection(int,int)",
        "int ofTie(int,int)", "long tempo(int,int)", "long ratio(int,int,int)", "long off(int,int)",
        "int ring(int)", "int mark(int,boolean)", "int markAt(int)", "int nearest(int)", "long away(int,int)",
        "int pin(int,int)", "int harm()", "int play(int)", "int drift(int)", "long clock(int,int)",
        "long whole()", "int where(int,int)", "int within(int)", "int pivot(int,int,int)",
        "int pivots(int,int,int,int)", "int many(int)");

    public static void main(String[] args) throws Exception {
        theFace();
        theClassesInside();
        theText();
        DUE.end();
    }

    private static boolean isOpen(Member m) {
        return !Modifier.isPrivate(m.getModifiers()) && !m.isSynthetic();
    }

    private static void theFace() {
        DUE.part("the face");
        Set<String> open = new TreeSet<>();
        for (Method m : PivotBeats.class.getDeclaredMethods()) {
            if (isOpen(m)) {
                DUE.is(m.getName() + " is public", Modifier.isPublic(m.getModifiers()) ? 1 : 0, 1);
                String[] types = new String[m.getParameterCount()];
                for (int i = 0; i < types.length; i++) {
                    types[i] = m.getParameterTypes()[i].getName();
                }
                open.add(m.getReturnType().getName() + " " + m.getName() + "(" + String.join(",", types) + ")");
            }
        }
        DUE.is("methods " + open, open.equals(FACE) ? 1 : 0, 1);
        Set<String> constants = new TreeSet<>();
        for (Field f : PivotBeats.class.getDeclaredFields()) {
            if (isOpen(f)) {
                constants.add(f.getName());
            } else {
                DUE.is(f.getName() + " is final, or no static", Modifier.isFinal(f.getModifiers())
                    || !Modifier.isStatic(f.getModifiers()) ? 1 : 0, 1);
            }
        }
        DUE.is("constants " + constants,
            constants.equals(Set.of("UNKNOWN", "OUTSIDE", "STATE", "FULL", "NONE")) ? 1 : 0, 1);
        Constructor<?>[] made = PivotBeats.class.getDeclaredConstructors();
        DUE.is("constructors", made.length, 1);
        DUE.is("the constructor is public", Modifier.isPublic(made[0].getModifiers()) ? 1 : 0, 1);
        DUE.is("the class is public and final", PivotBeats.class.getModifiers(), Modifier.PUBLIC | Modifier.FINAL);
    }

    private static void theClassesInside() {
        DUE.part("the classes inside");
        Set<String> names = new TreeSet<>();
        for (String method : FACE) {
            names.add(method.replaceAll(".* |\\(.*", ""));
        }
        List<Class<?>> all = new ArrayList<>(List.of(PivotBeats.class.getDeclaredClasses()));
        DUE.is("12 classes at most", all.size() <= 11 ? 1 : 0, 1);
        for (Class<?> c : all) {
            DUE.is(c.getName() + " is static", Modifier.isStatic(c.getModifiers()) ? 1 : 0, 1);
        }
        all.add(PivotBeats.class);
        for (Class<?> c : all) {
            int fields = 0;
            for (Field f : c.getDeclaredFields()) {
                fields += Modifier.isStatic(f.getModifiers()) ? 0 : 1;
            }
            DUE.is(c.getName() + " has 20 fields at most", fields <= 20 ? 1 : 0, 1);
            for (Method m : c.getDeclaredMethods()) {
                boolean face = c == PivotBeats.class && isOpen(m);
                DUE.is(c.getName() + "." + m.getName() + " bears no public name",
                    !face && names.contains(m.getName()) ? 1 : 0, 0);
                DUE.is(c.getName() + "." + m.getName() + " has 7 parameters at most",
                    m.getParameterCount() <= 7 ? 1 : 0, 1);
            }
        }
    }

    private static void theText() throws Exception {
        DUE.part("the text");
        String text = Files.readString(Path.of("src/main/java/PivotBeats.java"));
        for (int i = 0; i < text.length(); i++) {
            if (text.charAt(i) > 127) {
                DUE.is("sign at " + i, text.charAt(i), 0);
            }
        }
        String code = text.replaceAll("(?s)/\\*.*?\\*/", "").replaceAll("//[^\n]*", "");
        String[] refused = {"throw", "throws", "try", "catch", "finally", "synchronized", "assert", "package",
            "import", "Object", "System", "Thread", "hashCode", "toString", "equals", "native", "volatile", "var"};
        for (String word : refused) {
            Matcher found = Pattern.compile("\\b" + word + "\\b").matcher(code);
            DUE.is("the word " + word, found.find() ? 1 : 0, 0);
        }
        for (String sign : new String[] {"->", "::", "static {", "Exact(", "@"}) {
            DUE.is("the sign " + sign, code.contains(sign) ? 1 : 0, 0);
        }
        theLengths(text.split("\n"));
    }

    /** From a line that opens a method to the first one that closes at the same depth. */
    private static void theLengths(String[] lines) {
        Pattern opens = Pattern.compile("( {4}| {8})(public|private|static|int|long|void|boolean)\\b.*\\) \\{");
        for (int i = 0; i < lines.length; i++) {
            Matcher open = opens.matcher(lines[i]);
            if (open.matches()) {
                int end = i;
                while (end < lines.length && !lines[end].equals(open.group(1) + "}")) {
                    end++;
                }
                DUE.is("60 lines at most from line " + (i + 1), end - i <= 60 ? 1 : 0, 1);
            }
        }
    }
}
