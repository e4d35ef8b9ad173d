/** Counts the answers that are not the ones that are due, and prints them. */
final class Due {
    private static final int PRINTED = 40;
    private static long asked;
    private static int wrong;

    private Due() {
    }

    static void is(String what, long got, long want) {
        asked++;
        if (got != want) {
            wrong++;
            if (wrong <= PRINTED) {
                System.out.println(what + " answered " + got + ", due is " + want);
            }
        }
    }

    static void holds(String what, boolean claim) {
        is(what, claim ? 1 : 0, 1);
    }

    static void end(String name) {
        System.out.println(name + ": " + asked + " answers, " + wrong + " not as due");
        if (wrong != 0 || asked == 0) {
            System.exit(1);
        }
    }
}
