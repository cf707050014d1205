/** Compares answers with those that are due, and ends a test with exit code 1 if one differs. */
final class Due {
    static final int BEYOND = -1000001;
    static final int FULL = -1000002;
    static final int KIND = -1000003;
    static final int NONE = -1000004;
    static final int STATE = -1000005;
    static final int MISSING = -1000006;
    static final int SIZE = -1000007;

    /** Far outside of every range, and where a careless sum would run over. */
    static final int LEAST = Integer.MIN_VALUE;
    static final int MOST = Integer.MAX_VALUE;

    private int wrong = 0;
    private String where = "";

    /** Names the promise, and the document's words, that the answers from here on hold. */
    void promise(int number, String words) {
        where = "promise " + number + ", \"" + words + "\": ";
        if (!Document.says(number, words)) {
            wrong++;
            System.out.println(where + "the document doesn't say so");
        }
    }

    void is(String call, long got, long want) {
        if (got != want) {
            wrong++;
            System.out.println(where + call + " answered " + got + ", due is " + want);
        }
    }

    void end() {
        if (wrong != 0) {
            System.out.println(wrong + " answers are not as due");
            System.exit(1);
        }
    }

    /** Feeds a text's characters one by one as bytes. */
    static void feed(LavenderParts x, String text) {
        for (int i = 0; i < text.length(); i++) {
            x.feed(text.charAt(i), 1);
        }
    }

    static int read(LavenderParts x, String text) {
        x.wipe();
        feed(x, text);
        return x.text();
    }

    /** Lays a sheet of 32 bits with these numbers. */
    static void lay(LavenderParts x, int s, int... numbers) {
        layOfBits(x, s, 32, numbers);
    }

    static void layOfBits(LavenderParts x, int s, int bits, int... numbers) {
        x.sheet(s, bits, numbers.length);
        for (int i = 0; i < numbers.length; i++) {
            x.write(s, i, numbers[i]);
        }
    }

    /** A square with as many plain singers, all as at first. */
    static LavenderParts plain(int singers) {
        LavenderParts x = new LavenderParts();
        for (int i = 0; i < singers; i++) {
            x.singer(0, 0);
        }
        return x;
    }

    /** A square with one of each kind, whose number is her kind. */
    static LavenderParts oneOfEach() {
        LavenderParts x = new LavenderParts();
        for (int kind = 0; kind < 7; kind++) {
            x.singer(kind, kind);
        }
        return x;
    }
}
