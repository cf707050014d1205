/** Promises 14 to 19: beginFor, answerFor, kindFor, ageFor, hush, longest. */
public final class HowToSingTest {
    private static final Due due = new Due();

    public static void main(String[] args) {
        beginFor();
        beginForAll();
        answerFor();
        kindFor();
        ageFor();
        hush();
        hushTheFewest();
        longest();
        nothingChanges();
        due.end();
    }

    private static void beginFor() {
        LavenderParts x = new LavenderParts();
        due.is("nobody", x.beginFor(0, 1), Due.BEYOND);
        x.go(57);
        x.singer(0, 0);
        due.is("three full days", x.beginFor(0, 10), 57);
        due.is("all alike", x.beginFor(0, 0), 0);
        x.go(1);
        due.is("her voice wears", x.beginFor(0, 10), 58);
        due.is("only today", x.beginFor(0, 1), 58);
        due.is("twice in two years", x.beginFor(0, 120), 58);
        x.change(0, 6, 1);
        due.is("the dead begins anywhere", x.beginFor(0, 120), 0);
        due.is("n -1", x.beginFor(0, -1), Due.BEYOND);
        due.is("n 121", x.beginFor(0, 121), Due.BEYOND);
        due.is("singer -1", x.beginFor(-1, 1), Due.BEYOND);
    }

    /** It is not her own bunches that count: a last sells 16 only where nobody else sings. */
    private static void beginForAll() {
        LavenderParts x = new LavenderParts();
        x.singer(4, 0);
        x.singer(0, 30);
        // 5 days of 16 are the last's; a singer beside her would cost more than she sells.
        due.is("behind the last's", x.beginFor(1, 20), 5);
        x.change(1, 2, 0);
        due.is("one who answers begins anywhere", x.beginFor(1, 20), 0);
        x.change(1, 2, -1);
        x.change(0, 7, 99);
        due.is("as late as can be", x.beginFor(1, 60), 59);
    }

    private static void answerFor() {
        LavenderParts x = new LavenderParts();
        due.is("nobody", x.answerFor(0, 1), Due.BEYOND);
        x.singer(0, 0);
        due.is("nobody else is there", x.answerFor(0, 20), -1);
        x.singer(0, 40);
        due.is("she would begin too late", x.answerFor(1, 20), 0);
        x.change(1, 1, 5);
        due.is("nobody comes last", x.answerFor(1, 20), 0);
        x.change(1, 1, 0);
        due.is("too late to answer", x.answerFor(1, 5), -1);
        due.is("all alike", x.answerFor(1, 0), 0);
        due.is("answering is as good as beginning", x.answerFor(0, 20), 1);
        x.singer(0, 0);
        due.is("the least of two", x.answerFor(1, 20), 0);
        x.change(0, 6, 1);
        x.change(1, 1, 40);
        due.is("not the dead one", x.answerFor(1, 20), 2);
        due.is("n -1", x.answerFor(0, -1), Due.BEYOND);
        due.is("n 121", x.answerFor(0, 121), Due.BEYOND);
        due.is("singer 3", x.answerFor(3, 1), Due.BEYOND);
    }

    private static void kindFor() {
        LavenderParts x = new LavenderParts();
        due.is("nobody", x.kindFor(0, 1), Due.BEYOND);
        x.singer(0, 0);
        due.is("alone", x.kindFor(0, 1), 4);
        due.is("all alike", x.kindFor(0, 0), 0);
        x.singer(0, 30);
        x.change(1, 7, 99);
        due.is("beside one who sings", x.kindFor(0, 1), 5);
        due.is("an elder as a last", x.kindFor(0, 5), 3);
        x.change(0, 3, 9);
        due.is("hoarse", x.kindFor(0, 120), 6);
        due.is("n -1", x.kindFor(0, -1), Due.BEYOND);
        due.is("n 121", x.kindFor(0, 121), Due.BEYOND);
        due.is("singer 2", x.kindFor(2, 1), Due.BEYOND);
    }

    private static void ageFor() {
        LavenderParts x = new LavenderParts();
        for (int kind = 0; kind < 7; kind++) {
            x.singer(kind, 0);
        }
        int[][] rows = {
            {0, 0, Due.NONE}, {0, 1, 120}, {1, 0, Due.NONE}, {1, 1, 9}, {1, 4, 39}, {1, 12, 119},
            {1, 13, 120}, {2, 2, Due.NONE}, {2, 3, 120}, {3, 1, Due.NONE}, {3, 2, 9}, {3, 8, 39},
            {3, 9, 39}, {4, 6, Due.NONE}, {4, 7, 9}, {4, 30, 119}, {4, 31, 120}, {4, 99, 120},
            {5, 0, Due.NONE}, {5, 1, 120}, {6, 1, Due.NONE}, {6, 2, 120},
            {0, -1, Due.BEYOND}, {0, 100, Due.BEYOND}, {7, 1, Due.BEYOND}, {-1, 1, Due.BEYOND},
        };
        for (int[] row : rows) {
            due.is("ageFor " + row[0] + ", " + row[1], x.ageFor(row[0], row[1]), row[2]);
        }
        x.change(6, 3, 49);
        due.is("a hoarse caroller", x.ageFor(6, 2), Due.NONE);
        due.is("age stays", x.of(4, 4), 30);
    }

    private static void hush() {
        LavenderParts x = new LavenderParts();
        due.is("an empty square", x.hush(60), 0);
        x.singer(0, 0);
        x.singer(1, 0);
        x.change(1, 2, 0);
        x.singer(2, 30);
        due.is("no days", x.hush(0), 0);
        due.is("the first", x.hush(5), 1);
        due.is("whom the sister answers", x.hush(8), 1);
        due.is("a day ahead of the cabman", x.hush(30), 1);
        due.is("the cabman, too", x.hush(31), 5);
        due.is("a year", x.hush(60), 5);
        x.change(1, 7, 3);
        due.is("the sister who sings, too", x.hush(31), 7);
        x.change(0, 6, 1);
        due.is("the dead are silent already", x.hush(31), 6);
        due.is("n -1", x.hush(-1), Due.BEYOND);
        due.is("n 61", x.hush(61), Due.BEYOND);
        due.is("nobody died", x.now(5), 1);
    }

    /** One ends on the first day without singing on it; those who answer her would sing. */
    private static void hushTheFewest() {
        LavenderParts x = new LavenderParts();
        x.singer(0, 0);
        x.singer(0, 0);
        x.singer(0, 40);
        x.change(0, 2, 2);
        x.change(2, 7, 1);
        x.change(1, 1, 40);
        due.is("either: the least", x.hush(5), 1);
        x.change(1, 2, 2);
        due.is("one, not the two who answer", x.hush(5), 4);
        due.is("nobody sings yet", x.hush(1), 0);
        due.is("all the same", x.hush(41), 4);
        LavenderParts y = new LavenderParts();
        for (int i = 0; i < 8; i++) {
            y.singer(i % 7, i);
            y.strike(i);
            y.change(i, 7, 9);
        }
        due.is("all of them", y.hush(1), 255);
    }

    private static void longest() {
        LavenderParts x = new LavenderParts();
        x.singer(0, 0);
        x.singer(1, 5);
        x.change(1, 2, 0);
        due.is("no days", x.longest(0), 0);
        due.is("while she sings", x.longest(3), 0);
        due.is("a rest", x.longest(7), 4);
        due.is("no longer", x.longest(15), 4);
        due.is("a longer one", x.longest(16), 5);
        due.is("to the year's end", x.longest(60), 49);
        due.is("the farthest", x.longest(200), 49);
        due.is("n -1", x.longest(-1), Due.BEYOND);
        due.is("n 201", x.longest(201), Due.BEYOND);
        LavenderParts y = new LavenderParts();
        y.go(10);
        y.singer(0, 10);
        due.is("still as it is", y.longest(0), 10);
        due.is("still as it is counts", y.longest(3), 10);
        y.change(0, 1, 12);
        due.is("still goes on", y.longest(5), 12);
    }

    private static void nothingChanges() {
        LavenderParts x = new LavenderParts();
        x.singer(0, 3);
        x.singer(1, 5);
        x.change(1, 2, 0);
        x.beginFor(0, 120);
        x.answerFor(0, 120);
        x.kindFor(0, 120);
        x.ageFor(1, 20);
        x.hush(60);
        x.longest(200);
        int[] own = {0, 3, -1, 60, 30, 3, 0, 0, 0, 0};
        for (int what = 0; what < own.length; what++) {
            due.is("as it was " + what, x.of(0, what), own[what]);
        }
        due.is("day as it was", x.now(0), 0);
        due.is("still as it was", x.now(3), 0);
        due.is("no finding", x.status(-1), 0);
    }
}
