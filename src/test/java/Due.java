/** What the tests share: each answer that is not the one that is due is printed and counted. */
abstract class Due {
    static final int NONE = -1;
    static final int NOTHING = -21, CAST = -22, OUT = -23, KIND = -24, SIZE = -25, TROUBLE = -26, FAR = -27;
    static final int UNKNOWN = -101, BAD = -102, FULL = -103, STATE = -104;
    static final int MIN = Integer.MIN_VALUE, MAX = Integer.MAX_VALUE;
    static final Class<?> CAST_THROWN = ClassCastException.class;
    static final Class<?> INDEX_THROWN = ArrayIndexOutOfBoundsException.class;
    static final Class<?> STORE_THROWN = ArrayStoreException.class;
    /** How many FIELDS each class tells. */
    static final int[] FIELDS = {1, 1, 2, 2, 2, 2, 2, 1};

    interface Call {
        long answer();
    }

    private static int wrong = 0;
    private static int asked = 0;
    private static int said = 0;
    private static String sentence = "";
    private static boolean sentenceIsPrinted = true;

    /** The sentences of ../shared/DOC.md, word for word, that do not hold if an answer from here on is not as due. */
    static void says(String... sentences) {
        said += sentences.length;
        sentence = String.join("', '", sentences);
        sentenceIsPrinted = false;
    }

    static void due(String call, long got, long want) {
        asked++;
        if (got != want) {
            wrong(call + " answered " + got + ", due is " + want);
        }
    }

    /** The call throws just this class of exception, not one below or above it. */
    static void thrown(String call, Class<?> want, Call made) {
        asked++;
        Class<?> got = null;
        try {
            made.answer();
        } catch (RuntimeException e) {
            got = e.getClass();
        }
        if (got != want) {
            wrong(call + " threw " + got + ", due is " + want);
        }
    }

    /** Counts an answer that was looked at elsewhere; text tells what is wrong with it, null: nothing. */
    static void looked(String text) {
        asked++;
        if (text != null) {
            wrong(text);
        }
    }

    private static void wrong(String text) {
        wrong++;
        if (!sentenceIsPrinted) {
            System.out.println("'" + sentence + "':");
            sentenceIsPrinted = true;
        }
        System.out.println(text);
    }

    /** Numbers below and above a range: the nearest ones, those that wrap around to it, and the farthest. */
    static int[] outside(int low, int high) {
        return new int[] {
            low - 1, high + 1, low - 2, high + 2, low - 32, high + 32, low - 64, high + 64, low - 256, high + 256,
            low - 65536, high + 65536, MIN, MAX, MIN + low, MIN + high};
    }

    static void end() {
        String sentences = said == 0 ? "" : said + " sentences, ";
        System.out.println(sentences + asked + " answers, " + wrong + " not as due");
        if (wrong != 0) {
            System.exit(1);
        }
    }
}
