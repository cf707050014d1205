/** Promises 14 to 19: every boundary that the document's words name for how to sing. */
public final class HowToSingEdgesTest {
    private static final Due due = new Due();

    /** Neither of these is a number of somebody in a square of one or two. */
    private static final int[] NOBODY = {Due.LEAST, -1, 2, 7, 8, Due.MOST};

    public static void main(String[] args) {
        promise14WhoAndHowLong();
        promise14TheLeastDate();
        promise14AllTogether();
        promise15WhoAndHowLong();
        promise15NobodyComesLast();
        promise15TheLeastOther();
        promise16WhoAndHowLong();
        promise16TheLeastKind();
        promise16HerOwn();
        promise17WhoAndGap();
        promise17TheGreatestAge();
        promise18HowLong();
        promise18FewestThenLeast();
        promise18ExactlyAsManyDays();
        promise18TheDead();
        promise19HowLong();
        promise19StillAsItIs();
        due.end();
    }

    private static void promise14WhoAndHowLong() {
        due.promise(14, "behind n (0 to 120) DAYS. BEYOND.");
        LavenderParts x = Due.plain(2);
        for (int n : new int[] {Due.LEAST, -1, 121, Due.MOST}) {
            due.is("n " + n, x.beginFor(0, n), Due.BEYOND);
        }
        for (int who : NOBODY) {
            due.is("singer " + who, x.beginFor(who, 1), Due.BEYOND);
        }
        due.is("nobody is there", new LavenderParts().beginFor(0, 0), Due.BEYOND);
        x.go(1);
        due.is("n 0", x.beginFor(1, 0), 0);
        x.change(1, 7, 0);
        due.is("n 1", x.beginFor(1, 1), 1);
        due.is("n 120", x.beginFor(1, 120), 1);
    }

    private static void promise14TheLeastDate() {
        due.promise(14, "The DATE on which a SINGER must BEGIN");
        LavenderParts x = Due.plain(1);
        x.go(59);
        x.change(0, 7, 0);
        due.is("today is date 59", x.beginFor(0, 1), 59);
        x.go(1);
        due.is("today is date 0", x.beginFor(0, 1), 0);
        due.promise(14, "of several that would do the least number counts, where nothing else is told");
        due.is("dates 0 to 57 do", x.beginFor(0, 60), 0);
        x.go(5);
        x.change(0, 7, 0);
        due.is("dates 5 to 57 do", x.beginFor(0, 55), 5);
        x.change(0, 9, 9999);
        due.is("she can't sell more", x.beginFor(0, 120), 0);
        x.change(0, 9, 0);
        x.change(0, 6, 1);
        due.is("the dead", x.beginFor(0, 120), 0);
        due.is("her date stays", x.of(0, 1), 0);
    }

    /** A last sells 16 while she is alone, so that another one had better wait till she ends. */
    private static void promise14AllTogether() {
        due.promise(14, "so that SOLD of all together is most");
        LavenderParts x = Due.plain(2);
        x.change(0, 0, 4);
        x.change(0, 1, 30);
        x.change(0, 7, 5);
        due.is("the last sings on four days more", x.beginFor(1, 6), 4);
        due.is("to the day on which she ends", x.beginFor(1, 5), 4);
        due.is("to the day ahead of it", x.beginFor(1, 4), 4);
        due.is("to the third day", x.beginFor(1, 3), 3);
        due.promise(14, "a DATE on which she BEGINS (0 to 59; 0 at first)");
        x.change(0, 7, 99);
        due.is("best never, so on the last date", x.beginFor(1, 60), 59);
        x.change(1, 2, 0);
        due.is("one who answers", x.beginFor(1, 6), 0);
    }

    private static void promise15WhoAndHowLong() {
        due.promise(15, "BEYOND.");
        LavenderParts x = Due.plain(2);
        for (int n : new int[] {Due.LEAST, -1, 121, Due.MOST}) {
            due.is("n " + n, x.answerFor(0, n), Due.BEYOND);
        }
        for (int who : NOBODY) {
            due.is("singer " + who, x.answerFor(who, 1), Due.BEYOND);
        }
        due.is("n 0", x.answerFor(1, 0), 0);
        due.is("n 120", x.answerFor(1, 120), 0);
    }

    private static void promise15NobodyComesLast() {
        due.promise(15, "another one, or -1: nobody, which comes last");
        LavenderParts x = Due.plain(1);
        due.is("nobody else is there", x.answerFor(0, 120), -1);
        due.is("nobody else is there, no day", x.answerFor(0, 0), -1);
        x.singer(0, 40);
        due.is("nobody is as good as another one", x.answerFor(0, 0), 1);
        due.is("nobody is better", x.answerFor(0, 1), -1);
        due.is("her own answer stays", x.of(0, 2), -1);
        x.change(0, 6, 1);
        due.is("the dead sells nothing either way", x.answerFor(0, 120), 1);
    }

    private static void promise15TheLeastOther() {
        due.promise(15, "Whom she must ANSWER");
        LavenderParts x = Due.plain(8);
        for (int who = 0; who < 8; who++) {
            x.change(who, 1, 59);
        }
        x.change(7, 7, 1);
        due.is("the eighth ends today", x.answerFor(0, 2), 7);
        x.change(5, 7, 1);
        due.is("the sixth, too", x.answerFor(0, 2), 5);
        due.is("one who ends today hears nobody: all are alike", x.answerFor(5, 3), 0);
        due.is("all are alike for the first, too", x.answerFor(0, 1), 1);
        x.change(5, 6, 1);
        due.is("the dead one doesn't end", x.answerFor(0, 2), 7);
        x.change(7, 7, 0);
        due.is("nobody ends", x.answerFor(0, 2), 1);
    }

    private static void promise16WhoAndHowLong() {
        due.promise(16, "behind n (0 to 120) DAYS. BEYOND.");
        LavenderParts x = Due.plain(2);
        for (int n : new int[] {Due.LEAST, -1, 121, Due.MOST}) {
            due.is("n " + n, x.kindFor(0, n), Due.BEYOND);
        }
        for (int who : NOBODY) {
            due.is("singer " + who, x.kindFor(who, 1), Due.BEYOND);
        }
        due.is("n 0", x.kindFor(1, 0), 0);
        due.is("n 1", x.kindFor(1, 1), 5);
        due.is("n 120", x.kindFor(1, 120), 4);
        due.is("her kind stays", x.of(1, 0), 0);
    }

    private static void promise16TheLeastKind() {
        due.promise(16, "The KIND of which she must be");
        LavenderParts x = Due.plain(2);
        x.change(0, 0, 4);
        x.change(1, 7, 99);
        x.change(0, 6, 1);
        due.is("all are alike of the dead", x.kindFor(0, 120), 0);
        x.change(0, 6, 0);
        x.change(0, 9, 9999);
        due.is("all are alike at the most", x.kindFor(0, 120), 0);
        x.change(0, 9, 0);
        due.is("an elder is as good as a last beside another one", x.kindFor(0, 10), 3);
        x.change(0, 3, 0);
        due.is("a child and a caroller sell alike on one day", x.kindFor(0, 1), 5);
        due.is("a caroller lasts", x.kindFor(0, 2), 6);
    }

    private static void promise16HerOwn() {
        due.promise(16, "so that her SOLD is most");
        // A child who sings beside the last costs her 10 a day, but sells more herself.
        LavenderParts x = Due.plain(2);
        x.change(0, 0, 4);
        x.change(0, 7, 99);
        x.change(1, 3, 99);
        due.is("though all together sell less", x.kindFor(1, 1), 5);
    }

    private static void promise17WhoAndGap() {
        due.promise(17, "GAP of a SINGER would be v (0 to 99) or less, all else as now. BEYOND. NONE.");
        LavenderParts x = Due.plain(2);
        for (int v : new int[] {Due.LEAST, -1, 100, Due.MOST}) {
            due.is("v " + v, x.ageFor(0, v), Due.BEYOND);
        }
        for (int who : NOBODY) {
            due.is("singer " + who, x.ageFor(who, 1), Due.BEYOND);
        }
        due.is("v 0", x.ageFor(0, 0), Due.NONE);
        due.is("v 1", x.ageFor(0, 1), 120);
        due.is("v 99", x.ageFor(0, 99), 120);
    }

    private static void promise17TheGreatestAge() {
        due.promise(17, "The greatest AGE (0 to 120)");
        LavenderParts x = Due.oneOfEach();
        int[][] rows = { // kind, v, age
            {1, 0, Due.NONE}, {1, 1, 9}, {1, 2, 19}, {1, 11, 109}, {1, 12, 119}, {1, 13, 120}, {1, 99, 120},
            {2, 2, Due.NONE}, {2, 3, 120},
            {3, 1, Due.NONE}, {3, 2, 9}, {3, 3, 9}, {3, 4, 19}, {3, 25, 119}, {3, 26, 120},
            {4, 6, Due.NONE}, {4, 7, 9}, {4, 8, 9}, {4, 9, 19}, {4, 30, 119}, {4, 31, 120},
            {5, 0, Due.NONE}, {5, 1, 120}, {6, 1, Due.NONE}, {6, 2, 120},
        };
        for (int[] row : rows) {
            due.is("kind " + row[0] + ", v " + row[1], x.ageFor(row[0], row[1]), row[2]);
        }
        x.change(6, 3, 49);
        due.is("a caroller of voice 49", x.ageFor(6, 2), Due.NONE);
        x.change(1, 6, 1);
        x.change(1, 4, 120);
        due.is("a dead sister of 120", x.ageFor(1, 1), 9);
        due.is("her age stays", x.of(1, 4), 120);
    }

    private static void promise18HowLong() {
        due.promise(18, "STILL is n (0 to 60) or more behind n DAYS");
        LavenderParts x = Due.plain(1);
        for (int n : new int[] {Due.LEAST, -1, 61, Due.MOST}) {
            due.is("n " + n, x.hush(n), Due.BEYOND);
        }
        due.is("n 0", x.hush(0), 0);
        due.is("n 1", x.hush(1), 1);
        due.is("n 60", x.hush(60), 1);
        due.is("an empty square", new LavenderParts().hush(60), 0);
    }

    private static void promise18FewestThenLeast() {
        due.promise(18, "The set of fewest SINGERS such that, if these are DEAD now, too");
        LavenderParts x = Due.plain(8);
        for (int who = 0; who < 8; who++) {
            x.change(who, 7, 2);
        }
        due.is("all eight", x.hush(1), 255);
        // Seven answer the eighth, who ends on the first day: she alone is fewer than they.
        for (int who = 0; who < 7; who++) {
            x.change(who, 7, 0);
            x.change(who, 2, 7);
        }
        x.change(7, 7, 1);
        x.change(7, 1, 59);
        due.is("the eighth", x.hush(2), 128);
        due.is("nobody sings on the first day", x.hush(1), 0);
        due.promise(18, "of several the least");
        for (int who = 1; who < 7; who++) {
            x.change(who, 2, 0);
        }
        due.is("the first or the eighth", x.hush(3), 1);
        x.change(6, 2, 7);
        due.is("the eighth alone again", x.hush(3), 128);
        x.change(5, 1, 0);
        x.change(5, 2, -1);
        due.is("the sixth, too", x.hush(3), 128 + 32);
    }

    private static void promise18ExactlyAsManyDays() {
        due.promise(18, "STILL is n (0 to 60) or more behind n DAYS");
        LavenderParts x = Due.plain(1);
        x.change(0, 1, 10);
        due.is("to the day ahead of hers", x.hush(10), 0);
        due.is("to hers", x.hush(11), 1);
        x.change(0, 1, 59);
        due.is("n 59", x.hush(59), 0);
        due.is("n 60", x.hush(60), 1);
        // Days that were still already don't stand for one on which somebody sings.
        x.change(0, 1, 0);
        x.go(60);
        due.is("still is 57", x.now(3), 57);
        x.change(0, 5, 1);
        due.is("one day of singing", x.hush(3), 1);
        due.is("no day", x.hush(0), 0);
        x.change(0, 7, 1);
        x.change(0, 1, 30);
        due.is("she sings now, but ends on the first day", x.hush(3), 0);
    }

    private static void promise18TheDead() {
        due.promise(18, "if these are DEAD now, too");
        LavenderParts x = Due.plain(2);
        x.change(0, 6, 1);
        due.is("the dead isn't told again", x.hush(60), 2);
        due.is("nobody dies of it", x.now(5), 1);
        x.change(1, 6, 1);
        due.is("all are dead", x.hush(60), 0);
    }

    private static void promise19HowLong() {
        due.promise(19, "in the next n (0 to 200) DAYS");
        LavenderParts x = new LavenderParts();
        for (int n : new int[] {Due.LEAST, -1, 201, Due.MOST}) {
            due.is("n " + n, x.longest(n), Due.BEYOND);
        }
        due.is("n 0", x.longest(0), 0);
        due.is("n 1", x.longest(1), 1);
        due.is("n 200", x.longest(200), 200);
        x.go(60);
        due.is("n 200 behind 60", x.longest(200), 260);
        due.is("no day went by", x.now(0), 60);
    }

    private static void promise19StillAsItIs() {
        due.promise(19, "STILL at its greatest behind one of them; STILL as it is counts");
        LavenderParts x = new LavenderParts();
        x.go(10);
        x.singer(0, 10);
        due.is("no day", x.longest(0), 10);
        due.is("she sings on the next day", x.longest(1), 10);
        due.is("ten days behind her part", x.longest(13), 10);
        due.is("eleven days behind it", x.longest(14), 11);
        due.is("till she begins again", x.longest(60), 57);
        due.is("and no longer", x.longest(200), 57);
        x.go(1);
        due.is("while she sings", x.longest(2), 0);
        due.is("the day on which she ends", x.longest(3), 1);
    }
}
