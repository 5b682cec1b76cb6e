/** Counts answers that are not the ones that are due, and ends a test with them. */
final class Due {
    private static int wrong;
    private static int seen;

    private Due() {
    }

    static void is(String call, long got, long want) {
        seen++;
        if (got != want) {
            wrong++;
            if (wrong <= 50) {
                System.out.println(call + " answered " + got + ", due is " + want);
            }
        }
    }

    static void that(String what, boolean right) {
        is(what, right ? 1 : 0, 1);
    }

    static int wrongOnes() {
        return wrong;
    }

    static void close() {
        System.out.println(seen + " answers, " + wrong + " not as due");
        if (wrong != 0 || seen == 0) {
            System.exit(1);
        }
    }
}
