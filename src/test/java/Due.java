/** Counts and prints the answers that are not due. */
final class Due {
    private static int wrong = 0;

    private Due() {
    }

    static void is(String what, long want, long got) {
        if (got != want) {
            wrong++;
            if (wrong <= 40) {
                System.out.println(what + " answered " + got + ", due is " + want);
            }
        }
    }

    static void end() {
        if (wrong > 0) {
            System.out.println(wrong + " answers are not as due");
            System.exit(1);
        }
    }
}
