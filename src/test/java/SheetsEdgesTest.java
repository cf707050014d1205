/** Promises 29 to 35: every boundary that the document's words name for spots and sheets. */
public final class SheetsEdgesTest {
    private static final Due due = new Due();

    /** None of these is the number of a sheet. */
    private static final int[] NO_SHEETS = {Due.LEAST, -1, 4, Due.MOST};

    public static void main(String[] args) {
        promise29SpotsAndSingers();
        promise29Nothing();
        promise30SpotsAndKinds();
        promise30FindingsInTheirOrder();
        promise30Under();
        promise31SheetsAndBits();
        promise31Size();
        promise31AllNoughts();
        promise31FindingsInTheirOrder();
        promise32NumbersOfASheet();
        promise32LowestBits();
        promise33FindingsInTheirOrder();
        promise33HowMany();
        promise33AsTheyAllWere();
        promise34HowManyCame();
        promise34Findings();
        promise35Places();
        promise35Findings();
        due.end();
    }

    private static void promise29SpotsAndSingers() {
        due.promise(29, "A SPOT holds a SINGER, or nothing (-1): 1. BEYOND.");
        LavenderParts x = Due.plain(2);
        for (int spot : new int[] {Due.LEAST, -1, 10, Due.MOST}) {
            due.is("spot " + spot, x.hold(spot, 0), Due.BEYOND);
            due.is("spot " + spot + ", nothing", x.hold(spot, -1), Due.BEYOND);
        }
        for (int who : new int[] {Due.LEAST, -2, 2, 8, Due.MOST}) {
            due.is("singer " + who, x.hold(0, who), Due.BEYOND);
        }
        due.is("none holds anything", x.count(7), 0);
        due.is("the first spot", x.hold(0, 0), 1);
        due.is("the last spot", x.hold(9, 1), 1);
        due.is("the first spot's", x.as(0, 0), 0);
        due.is("the last spot's", x.as(9, 0), 1);
        for (int spot = 0; spot < 10; spot++) {
            due.is("the same in all", x.hold(spot, 1), 1);
        }
        due.is("all hold something", x.count(7), 10);
        LavenderParts y = Due.plain(8);
        due.is("the eighth", y.hold(4, 7), 1);
        due.is("no ninth", y.hold(4, 8), Due.BEYOND);
        due.is("as before", y.as(4, 0), 7);
    }

    private static void promise29Nothing() {
        due.promise(29, "or nothing (-1): 1");
        LavenderParts x = new LavenderParts();
        due.is("nobody is there", x.hold(0, 0), Due.BEYOND);
        due.is("nothing", x.hold(0, -1), 1);
        x.singer(0, 0);
        x.hold(0, 0);
        due.is("nothing again", x.hold(0, -1), 1);
        due.is("it holds nothing", x.as(0, 0), Due.MISSING);
        due.is("none holds anything", x.count(7), 0);
    }

    private static void promise30SpotsAndKinds() {
        due.promise(30, "What a SPOT holds as one of a kind (0 to 6): the number of the SINGER. BEYOND.");
        LavenderParts x = Due.plain(1);
        for (int spot = 0; spot < 10; spot++) {
            x.hold(spot, 0);
        }
        for (int spot : new int[] {Due.LEAST, -1, 10, Due.MOST}) {
            due.is("spot " + spot, x.as(spot, 0), Due.BEYOND);
        }
        for (int kind : new int[] {Due.LEAST, -1, 7, Due.MOST}) {
            due.is("kind " + kind, x.as(0, kind), Due.BEYOND);
        }
        due.is("kind 0", x.as(9, 0), 0);
        due.is("kind 6", x.as(9, 6), Due.KIND);
        x.change(0, 0, 6);
        due.is("kind 6 now", x.as(9, 6), 0);
        x.change(0, 6, 1);
        due.is("the dead, too", x.as(9, 6), 0);
    }

    private static void promise30FindingsInTheirOrder() {
        due.promise(30, "BEYOND. MISSING: it holds nothing. KIND: it isn't of that kind, nor of one under it.");
        LavenderParts x = Due.plain(1);
        due.is("no kind, nothing", x.as(0, 7), Due.BEYOND);
        due.is("no spot", x.as(10, 1), Due.BEYOND);
        due.is("nothing", x.as(0, 1), Due.MISSING);
        x.hold(0, 0);
        due.is("not of that kind", x.as(0, 1), Due.KIND);
    }

    private static void promise30Under() {
        due.promise(30, "0 SINGER; 1 SISTER, 2 CABMAN, 5 CHILD under SINGER; 3 ELDER under SISTER; 4 LAST under ELDER; 6 CAROLLER under CABMAN");
        int[][] under = {{0}, {0, 1}, {0, 2}, {0, 1, 3}, {0, 1, 3, 4}, {0, 5}, {0, 2, 6}};
        LavenderParts x = Due.oneOfEach();
        for (int who = 0; who < 7; who++) {
            x.hold(0, who);
            for (int kind = 0; kind < 7; kind++) {
                int want = Due.KIND;
                for (int upper : under[who]) {
                    want = upper == kind ? who : want;
                }
                due.is(who + " as " + kind, x.as(0, kind), want);
            }
        }
    }

    private static void promise31SheetsAndBits() {
        due.promise(31, "BEYOND: no such sheet, other bits.");
        LavenderParts x = new LavenderParts();
        for (int s : NO_SHEETS) {
            due.is("sheet " + s, x.sheet(s, 8, 1), Due.BEYOND);
            due.is("sheet " + s + ", missing", x.sheet(s, 0, 0), Due.BEYOND);
        }
        for (int bits : new int[] {Due.LEAST, -32, -8, -1, 1, 4, 7, 9, 15, 17, 24, 31, 33, 64, Due.MOST}) {
            due.is("bits " + bits, x.sheet(0, bits, 1), Due.BEYOND);
        }
        due.is("it is missing yet", x.write(0, 0, 0), Due.MISSING);
        due.promise(31, "A sheet has n numbers, all 0, of 8, 16 or 32 bits");
        for (int bits : new int[] {8, 16, 32}) {
            for (int s = 0; s < 4; s++) {
                due.is("sheet " + s + ", bits " + bits, x.sheet(s, bits, 10 * s), 10 * s);
            }
        }
        due.promise(31, "bits 0: it is MISSING: n (0 if it is MISSING)");
        due.is("bits 0", x.sheet(3, 0, 5), 0);
        due.is("bits 0 of a missing one", x.sheet(3, 0, 40), 0);
        due.is("it is missing", x.load(3), Due.MISSING);
        due.is("another one isn't", x.load(2), 0);
        due.is("none was missing but by that", x.status(5), 2);
    }

    private static void promise31Size() {
        LavenderParts x = new LavenderParts();
        due.promise(31, "SIZE: n is below 0 (also with bits 0).");
        for (int bits : new int[] {0, 8, 16, 32}) {
            due.is("n -1, bits " + bits, x.sheet(0, bits, -1), Due.SIZE);
            due.is("n least, bits " + bits, x.sheet(0, bits, Due.LEAST), Due.SIZE);
        }
        due.promise(31, "BEYOND: n is above 40.");
        for (int bits : new int[] {0, 8, 16, 32}) {
            due.is("n 41, bits " + bits, x.sheet(0, bits, 41), Due.BEYOND);
            due.is("n most, bits " + bits, x.sheet(0, bits, Due.MOST), Due.BEYOND);
        }
        due.is("it is missing yet", x.load(0), Due.MISSING);
        due.promise(31, "rows of at most 40 numbers");
        due.is("n 40", x.sheet(0, 8, 40), 40);
        due.is("the last number", x.write(0, 39, 1), 1);
        due.is("no number behind it", x.write(0, 40, 1), Due.BEYOND);
        due.is("n 0", x.sheet(0, 8, 0), 0);
        due.is("no number at all", x.write(0, 0, 1), Due.BEYOND);
        due.is("it isn't missing", x.judge(0), 0);
        // A refused call leaves the sheet as it was.
        due.is("n 3", x.sheet(0, 16, 3), 3);
        x.sheet(0, 8, 41);
        x.sheet(0, 0, -1);
        x.sheet(0, 5, 2);
        due.is("a number of it", x.write(0, 2, 1), 1);
    }

    private static void promise31AllNoughts() {
        due.promise(31, "A sheet has n numbers, all 0");
        LavenderParts x = Due.plain(8);
        for (int n : new int[] {2, 8}) {
            Due.lay(x, 0, 1, 2, 3, 4, 5, 6, 7, 8);
            due.is("numbers", x.sheet(0, 32, n), n);
            due.is("all 0 of " + n, x.judge(0), 0);
        }
        Due.lay(x, 0, 1, 2, 3);
        x.sheet(0, 0, 0);
        x.sheet(0, 32, 3);
        due.is("all 0 behind missing", x.judge(0), 0);
    }

    private static void promise31FindingsInTheirOrder() {
        due.promise(31, "BEYOND: no such sheet, other bits. SIZE: n is below 0 (also with bits 0). BEYOND: n is above 40.");
        LavenderParts x = new LavenderParts();
        due.is("no sheet, n -1", x.sheet(4, 8, -1), Due.BEYOND);
        due.is("other bits, n -1", x.sheet(0, 9, -1), Due.BEYOND);
        due.is("other bits, n 41", x.sheet(0, 9, 41), Due.BEYOND);
        due.is("n -1", x.sheet(0, 8, -1), Due.SIZE);
    }

    private static void promise32NumbersOfASheet() {
        due.promise(32, "BEYOND: no such sheet. MISSING. BEYOND: no such number.");
        LavenderParts x = Due.plain(3);
        for (int s : NO_SHEETS) {
            due.is("sheet " + s, x.write(s, 0, 0), Due.BEYOND);
        }
        due.is("a missing one", x.write(0, 0, 0), Due.MISSING);
        due.is("a missing one, no number", x.write(0, -1, 0), Due.MISSING);
        x.sheet(0, 32, 3);
        for (int i : new int[] {Due.LEAST, -1, 3, 40, Due.MOST}) {
            due.is("number " + i, x.write(0, i, 7), Due.BEYOND);
        }
        due.is("all 0 yet", x.judge(0), 0);
        due.is("the first", x.write(0, 0, 7), 1);
        due.is("the first isn't 0", x.judge(0), 1);
        x.write(0, 0, 0);
        due.is("the last", x.write(0, 2, 7), 1);
        due.is("the last isn't 0", x.judge(0), 3);
    }

    /** What a number of a sheet is shows in the one SOLD by which judge() says so. */
    private static void promise32LowestBits() {
        due.promise(32, "Number i of a sheet becomes v (its lowest bits): 1.");
        int[][] rows = { // bits, v, what it is then
            {8, 0, 0}, {8, 127, 127}, {8, 256, 0}, {8, 256 + 127, 127}, {8, -256, 0}, {8, -129, 127},
            {8, Due.LEAST, 0}, {8, 0x12345678, 0x78},
            {16, 127, 127}, {16, 128, 128}, {16, 255, 255}, {16, 9999, 9999}, {16, 65536, 0},
            {16, 65536 + 9999, 9999}, {16, 9999 - 65536, 9999}, {16, Due.LEAST, 0}, {16, 0x12340678, 0x678},
            {32, 255, 255}, {32, 9999, 9999},
        };
        LavenderParts x = Due.plain(1);
        for (int[] row : rows) {
            Due.layOfBits(x, 0, row[0], row[1]);
            x.change(0, 9, row[2]);
            due.is(row[1] + " by " + row[0] + " bits", x.judge(0), 0);
        }
        int[][] others = { // bits, v, what it is not
            {8, 128, 128}, {8, 255, 255}, {8, 9999, 9999}, {8, -1, 1}, {16, -1, 1}, {32, 65536, 0},
            {32, Due.LEAST, 0}, {32, 65536 + 9999, 9999}, {32, -1, 1}, {32, 256, 0},
        };
        for (int[] row : others) {
            Due.layOfBits(x, 0, row[0], row[1]);
            x.change(0, 9, row[2]);
            due.is(row[1] + " by " + row[0] + " bits isn't " + row[2], x.judge(0), 1);
        }
    }

    private static void promise33FindingsInTheirOrder() {
        due.promise(33, "BEYOND: no such sheet (either). MISSING: one is. KIND: they are not of as many bits.");
        LavenderParts x = new LavenderParts();
        for (int s : NO_SHEETS) {
            due.is("from sheet " + s, x.copy(s, 0, 0, 0, 0), Due.BEYOND);
            due.is("to sheet " + s, x.copy(0, 0, s, 0, 0), Due.BEYOND);
        }
        due.is("both are missing", x.copy(0, 0, 1, 0, 0), Due.MISSING);
        x.sheet(0, 8, 2);
        due.is("from a missing one", x.copy(3, -1, 0, 0, 0), Due.MISSING);
        due.is("to a missing one", x.copy(0, -1, 3, 0, 0), Due.MISSING);
        x.sheet(1, 16, 2);
        x.sheet(2, 32, 2);
        for (int s = 0; s < 3; s++) {
            for (int t = 0; t < 3; t++) {
                due.is("from " + s + " to " + t, x.copy(s, 0, t, 0, 2), s == t ? 2 : Due.KIND);
                due.is("from " + s + " to " + t + ", n -1", x.copy(s, 0, t, 0, -1), s == t ? Due.BEYOND : Due.KIND);
            }
        }
        x.sheet(3, 8, 2);
        due.is("from the first to the last", x.copy(0, 0, 3, 0, 2), 2);
    }

    private static void promise33HowMany() {
        due.promise(33, "BEYOND: one has not so many, or from, to or n is below 0.");
        LavenderParts x = Due.plain(5);
        Due.lay(x, 0, 1, 2, 3);
        Due.lay(x, 1, 0, 0, 0, 0, 0);
        int[][] rows = { // from, to, n
            {-1, 0, 1}, {0, -1, 1}, {0, 0, -1}, {-1, 0, 0}, {0, -1, 0}, {0, 0, 4}, {1, 0, 3}, {3, 0, 1}, {4, 0, 0},
            {0, 3, 3}, {0, 5, 1}, {0, 6, 0}, {Due.LEAST, 0, 0}, {0, Due.LEAST, 0}, {0, 0, Due.LEAST},
            {Due.MOST, 0, 1}, {0, Due.MOST, 1}, {0, 0, Due.MOST}, {1, 1, Due.MOST}, {Due.MOST, Due.MOST, Due.MOST},
            {Due.LEAST, 0, Due.MOST}, {0, Due.LEAST, Due.MOST}, {2, 0, Due.MOST - 1},
        };
        for (int[] row : rows) {
            String call = "from " + row[0] + " to " + row[1] + ", " + row[2];
            due.is(call, x.copy(0, row[0], 1, row[1], row[2]), Due.BEYOND);
        }
        due.is("all 0 yet", x.judge(1), 0);
        due.is("none from the end to the end", x.copy(0, 3, 1, 5, 0), 0);
        due.is("all 0 yet", x.judge(1), 0);
        due.promise(33, "n numbers of a sheet from one on come to another one from one on");
        due.is("all to the end", x.copy(0, 0, 1, 2, 3), 3);
        sold(x, 1, 0, 0, 1, 2, 3);
        due.is("the last to the first", x.copy(0, 2, 1, 0, 1), 1);
        sold(x, 1, 3, 0, 1, 2, 3);
        due.is("none from sheets of none", x.sheet(2, 32, 0) + x.copy(2, 0, 2, 0, 0), 0);
        due.is("one from a sheet of none", x.copy(2, 0, 1, 0, 1), Due.BEYOND);
        due.is("one to a sheet of none", x.copy(1, 0, 2, 0, 1), Due.BEYOND);
    }

    private static void sold(LavenderParts x, int s, int... numbers) {
        for (int i = 0; i < numbers.length; i++) {
            x.change(i, 9, numbers[i]);
        }
        due.is("numbers of sheet " + s, x.judge(s), 0);
    }

    private static void promise33AsTheyAllWere() {
        due.promise(33, "(as they all were)");
        LavenderParts x = Due.plain(5);
        Due.lay(x, 0, 1, 2, 3, 4, 5);
        due.is("one up", x.copy(0, 0, 0, 1, 4), 4);
        sold(x, 0, 1, 1, 2, 3, 4);
        Due.lay(x, 0, 1, 2, 3, 4, 5);
        due.is("one down", x.copy(0, 1, 0, 0, 4), 4);
        sold(x, 0, 2, 3, 4, 5, 5);
        due.is("onto itself", x.copy(0, 0, 0, 0, 5), 5);
        sold(x, 0, 2, 3, 4, 5, 5);
    }

    private static void promise34HowManyCame() {
        due.promise(34, "It ends at the first that isn't 0 to 59, or for which there is no SINGER.");
        LavenderParts x = Due.plain(3);
        int[][] rows = { // how many come, numbers
            {0}, {1, 7}, {3, 0, 59, 1}, {3, 4, 5, 6, 7}, {1, 8, 60, 9}, {1, 9, -1, 9}, {0, 60, 1, 1}, {0, -1, 1, 1},
            {2, 10, 11, Due.MOST}, {2, 12, 13, Due.LEAST}, {0, 256, 1, 1},
        };
        for (int[] row : rows) {
            int[] dates = new int[3];
            int[] numbers = new int[row.length - 1];
            System.arraycopy(row, 1, numbers, 0, numbers.length);
            for (int who = 0; who < 3; who++) {
                x.change(who, 1, 33 + who);
                dates[who] = who < row[0] ? numbers[who] : 33 + who;
            }
            Due.lay(x, 0, numbers);
            due.is("how many came", x.load(0), row[0]);
            for (int who = 0; who < 3; who++) {
                due.is("date of " + who, x.of(who, 1), dates[who]);
            }
        }
        due.is("no finding", x.status(-1), 0);
        LavenderParts y = new LavenderParts();
        y.sheet(0, 8, 40);
        due.is("nobody for 40 numbers", y.load(0), 0);
        LavenderParts z = Due.plain(8);
        z.sheet(0, 8, 40);
        z.change(7, 6, 1);
        due.is("eight for 40 numbers, the dead, too", z.load(0), 8);
    }

    private static void promise34Findings() {
        due.promise(34, "BEYOND: no such sheet. MISSING.");
        LavenderParts x = Due.plain(1);
        for (int s : NO_SHEETS) {
            due.is("sheet " + s, x.load(s), Due.BEYOND);
        }
        for (int s = 0; s < 4; s++) {
            due.is("sheet " + s + " is missing", x.load(s), Due.MISSING);
            x.sheet(s, 8, 1);
            due.is("sheet " + s, x.load(s), 1);
        }
    }

    private static void promise35Places() {
        due.promise(35, "0 if so; else 1 and the place of the first that isn't so");
        LavenderParts x = Due.plain(3);
        x.change(0, 9, 0);
        x.change(1, 9, 5);
        x.change(2, 9, 9999);
        int[][] rows = { // answer, numbers
            {0}, {0, 0}, {0, 0, 5}, {0, 0, 5, 9999}, {1, 1}, {1, -1, 5, 9999}, {2, 0, 4, 9999}, {2, 0, 6, 9998},
            {3, 0, 5, 9998}, {3, 0, 5, -1}, {4, 0, 5, 9999, 0}, {4, 0, 5, 9999, -1}, {1, 1, 1, 1}, {1, Due.LEAST},
        };
        for (int[] row : rows) {
            int[] numbers = new int[row.length - 1];
            System.arraycopy(row, 1, numbers, 0, numbers.length);
            Due.lay(x, 0, numbers);
            due.is("judge", x.judge(0), row[0]);
        }
        x.change(1, 6, 1);
        Due.lay(x, 0, 0, 5);
        due.is("the dead, too", x.judge(0), 0);
        due.is("no finding", x.status(-1), 0);
        LavenderParts y = new LavenderParts();
        y.sheet(0, 8, 40);
        due.is("nobody is there", y.judge(0), 1);
        LavenderParts z = Due.plain(8);
        z.sheet(0, 8, 40);
        due.is("eight for 40 numbers", z.judge(0), 9);
        z.sheet(0, 8, 8);
        due.is("eight for 8", z.judge(0), 0);
    }

    private static void promise35Findings() {
        due.promise(35, "BEYOND: no such sheet. MISSING.");
        LavenderParts x = Due.plain(1);
        for (int s : NO_SHEETS) {
            due.is("sheet " + s, x.judge(s), Due.BEYOND);
        }
        for (int s = 0; s < 4; s++) {
            due.is("sheet " + s + " is missing", x.judge(s), Due.MISSING);
            x.sheet(s, 8, 1);
            due.is("sheet " + s, x.judge(s), 0);
        }
    }
}
