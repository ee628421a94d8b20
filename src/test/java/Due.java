/** Compares answers with those that are due, and remembers whether one was wrong. */
final class Due {
    private static final int MOST_PRINTED = 40;
    private static String sentence = "";
    private static int tests = 0;
    private static int wrong = 0;
    private static int compared = 0;

    private Due() {
    }

    /**
     * One test, named by the sentence of the document that it holds the program to. What the program throws counts as
     * a wrong answer, so that the tests behind it are asked, too.
     */
    static void test(String itsSentence, Runnable test) {
        int before = wrong;
        sentence = itsSentence;
        try {
            test.run();
        } catch (RuntimeException thrown) {
            is("it threw " + thrown, 1, 0);
        }
        sentence = "";
        tests++;
        if (wrong > before) {
            System.out.println("FAILED: " + itsSentence);
        }
    }

    static void is(String call, long got, long want) {
        compared++;
        if (got == want) {
            return;
        }
        wrong++;
        if (wrong <= MOST_PRINTED) {
            String where = sentence.isEmpty() ? "" : sentence + " | ";
            System.out.println(where + call + " answered " + got + ", due is " + want);
        }
    }

    static void holds(String what, boolean isSo) {
        is(what, isSo ? 1 : 0, 1);
    }

    /** A text as the numbers that put() takes, eight characters each. */
    static long[] pieces(String text) {
        long[] numbers = new long[(text.length() + 7) / 8];
        for (int i = 0; i < text.length(); i++) {
            numbers[i / 8] = numbers[i / 8] << 8 | text.charAt(i);
        }
        return numbers;
    }

    static void write(ScoutGates gates, String text) {
        for (long piece : pieces(text)) {
            gates.put(piece);
        }
    }

    static void end() {
        System.out.println(tests + " tests by sentence, " + compared + " answers compared, " + wrong + " not as due");
        if (wrong != 0 || compared == 0) {
            System.exit(1);
        }
    }
}
