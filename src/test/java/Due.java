/** Counts and prints the answers that are not as due. */
final class Due {
    private final String test;
    private String part = "";
    private int asked;
    private int wrong;

    Due(String test) {
        this.test = test;
    }

    void part(String name) {
        part = name;
    }

    void is(String call, long got, long want) {
        is(call, String.valueOf(got), String.valueOf(want));
    }

    void is(String call, String got, String want) {
        asked++;
        if (!got.equals(want)) {
            wrong++;
            if (wrong <= 50) {
                System.out.println(test + ", " + part + ": " + call + " answered " + got + ", due is " + want);
            }
        }
    }

    void end() {
        System.out.println(test + ": " + asked + " answers, " + wrong + " not as due");
        if (wrong != 0 || asked == 0) {
            System.exit(1);
        }
    }
}
