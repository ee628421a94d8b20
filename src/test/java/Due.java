/** Compares answers with those that are due, and remembers whether one was wrong. */
final class Due {
    private static final int MOST_PRINTED = 20;
    private static int wrong = 0;
    private static int compared = 0;

    private Due() {
    }

    static void is(String call, long got, long want) {
        compared++;
        if (got == want) {
            return;
        }
        wrong++;
        if (wrong <= MOST_PRINTED) {
            System.out.println(call + " answered " + got + ", due is " + want);
        }
    }

    static void holds(String what, boolean isSo) {
        is(what, isSo ? 1 : 0, 1);
    }

    /** A text as the numbers that put() takes, eight characters each. */
    static long[] pieces(String text) {
        long[] numbers = new long[(text.length() + 7) / 8];
        for (int i = 0; i < text.length(); i++) {
            numbers[i / 8] = numbers[i / 8] << 8 | text.charAt(i);
        }
        return numbers;
    }

    static void write(ScoutGates gates, String text) {
        for (long piece : pieces(text)) {
            gates.put(piece);
        }
    }

    static void end() {
        System.out.println(compared + " answers compared, " + wrong + " not as due");
        if (wrong != 0 || compared == 0) {
            System.exit(1);
        }
    }
}
