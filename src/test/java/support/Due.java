/** Counts the answers that are not the ones that are due. */
final class Due {
    static final int MISSING = -1000000001;
    private static int wrong = 0;

    private Due() {
    }

    static void due(String call, long got, long want) {
        if (got != want) {
            wrong++;
            System.out.println(call + " answered " + got + ", due is " + want);
        }
    }

    /** Puts a text's signs on a shelf as a row of bytes. */
    static void write(ElevenOne x, int d, String text) {
        due("row", x.row(d, 0, text.length()), 0);
        for (int i = 0; i < text.length(); i++) {
            due("put", x.put(d, i, text.charAt(i)), 0);
        }
    }

    static int law(ElevenOne x, String text) {
        write(x, 7, text);
        return x.law(7);
    }

    /** The answer of element, or a code for what it throws. */
    static String element(ElevenOne x, int d, int i) {
        try {
            return "" + x.element(d, i);
        } catch (IllegalArgumentException e) {
            return "IllegalArgumentException";
        } catch (IllegalStateException e) {
            return "IllegalStateException";
        }
    }

    static void same(String call, String got, String want) {
        if (!got.equals(want)) {
            wrong++;
            System.out.println(call + " answered " + got + ", due is " + want);
        }
    }

    static void finish() {
        System.out.println(wrong == 0 ? "all answers are as due" : wrong + " answers are not as due");
        if (wrong != 0) {
            System.exit(1);
        }
    }
}
