/** What the tests share: answers against what is due, and short ways to bytes. */
final class Check {
    /** Bounds of loops over what a class answers: a wrong one must fail, not run on for ever. */
    private static final int MOST_BYTES = 4096;
    private static final int MOST_TERMS = 200;

    private static int wrong = 0;
    private static int done = 0;
    private static String sentence = "";

    private Check() {
    }

    /** A sentence of the document, and calls of which one answers otherwise where it does not hold. */
    static void sentence(String text, Runnable test) {
        int before = done;
        sentence = "\"" + text + "\": ";
        try {
            test.run();
        } catch (RuntimeException e) {
            wrong("a call threw " + e);
        }
        if (done == before) {
            wrong("nothing was asked");
        }
        sentence = "";
    }

    static void due(String what, long got, long want) {
        done++;
        if (got != want) {
            wrong(what + " answered " + got + ", due is " + want);
        }
    }

    static void due(String what, boolean got, boolean want) {
        done++;
        if (got != want) {
            wrong(what + " answered " + got + ", due is " + want);
        }
    }

    static void due(String what, String got, String want) {
        done++;
        if (!got.equals(want)) {
            wrong(what + " answered " + got + ", due is " + want);
        }
    }

    static void badArgument(String what, Runnable call) {
        due(what, thrownBy(call), "IllegalArgumentException");
    }

    static void badState(String what, Runnable call) {
        due(what, thrownBy(call), "IllegalStateException");
    }

    static String thrownBy(Runnable call) {
        try {
            call.run();
            return "nothing";
        } catch (RuntimeException e) {
            return e.getClass().getSimpleName();
        }
    }

    static void wrong(String text) {
        wrong++;
        if (wrong <= 50) {
            System.out.println(sentence + text);
        }
    }

    static boolean anyWrong() {
        return wrong != 0;
    }

    static void end() {
        System.out.println(wrong == 0 ? done + " answers are as due" : wrong + " answers are not as due");
        if (wrong != 0) {
            System.exit(1);
        }
    }

    /** Bytes in hexadecimal, with or without spaces, come to the input. */
    static void give(TermCodec x, String hex) {
        String digits = hex.replace(" ", "");
        for (int i = 0; i < digits.length(); i += 16) {
            String piece = digits.substring(i, Math.min(digits.length(), i + 16));
            due("give " + piece, x.give(Long.parseUnsignedLong(piece, 16), piece.length() / 2), true);
        }
    }

    /** An object whose input has these bytes. */
    static TermCodec having(String hex) {
        TermCodec x = new TermCodec();
        give(x, hex);
        return x;
    }

    static String outputOf(TermCodec x) {
        StringBuilder text = new StringBuilder();
        for (int k = 0; k <= MOST_BYTES && x.output(k) != TermCodec.NONE; k++) {
            text.append(k == 0 ? "" : " ").append(String.format("%02x", x.output(k)));
        }
        return text.toString();
    }

    /** The last term's bytes in hexadecimal; the output has them alone then. */
    static String written(TermCodec x) {
        x.wipe();
        due("write()", x.write(), x.look(7));
        return outputOf(x);
    }

    /** All that can be seen of the stack: its terms from the last one on. The stack is empty then. */
    static String stackOf(TermCodec x) {
        StringBuilder text = new StringBuilder();
        for (int t = 0; t <= MOST_TERMS && x.look(0) > 0; t++) {
            text.append(text.length() == 0 ? "" : " | ").append(written(x));
            x.drop();
        }
        return text.toString();
    }
}
