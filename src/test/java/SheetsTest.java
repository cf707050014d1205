/** Promises 29 to 35: hold, as, sheet, write, copy, load, judge. */
public final class SheetsTest {
    private static final Due due = new Due();

    public static void main(String[] args) {
        hold();
        as();
        sheet();
        write();
        copy();
        copyFindings();
        load();
        judge();
        due.end();
    }

    private static void hold() {
        LavenderParts x = new LavenderParts();
        due.is("nobody is there", x.hold(0, 0), Due.BEYOND);
        due.is("nothing", x.hold(0, -1), 1);
        x.singer(0, 0);
        due.is("spot 0", x.hold(0, 0), 1);
        due.is("spot 9", x.hold(9, 0), 1);
        due.is("spot 10", x.hold(10, 0), Due.BEYOND);
        due.is("spot -1", x.hold(-1, 0), Due.BEYOND);
        due.is("singer -2", x.hold(0, -2), Due.BEYOND);
        due.is("singer 1", x.hold(0, 1), Due.BEYOND);
        due.is("spots", x.count(7), 2);
        x.hold(0, -1);
        due.is("spots", x.count(7), 1);
        due.is("it holds nothing", x.as(0, 0), Due.MISSING);
    }

    private static void as() {
        LavenderParts x = new LavenderParts();
        int[] under = {1, 3, 5, 11, 27, 33, 69};
        for (int kind = 0; kind < 7; kind++) {
            x.singer(kind, 0);
            x.hold(9 - kind, kind);
            for (int upper = 0; upper < 7; upper++) {
                int want = (under[kind] >> upper & 1) != 0 ? kind : Due.KIND;
                due.is(kind + " as " + upper, x.as(9 - kind, upper), want);
            }
        }
        x.change(4, 0, 6);
        due.is("a last no more", x.as(5, 4), Due.KIND);
        due.is("a caroller now", x.as(5, 2), 4);
        due.is("spot -1", x.as(-1, 0), Due.BEYOND);
        due.is("spot 10", x.as(10, 0), Due.BEYOND);
        due.is("kind -1", x.as(0, -1), Due.BEYOND);
        due.is("kind 7", x.as(0, 7), Due.BEYOND);
        due.is("nothing", x.as(0, 0), Due.MISSING);
    }

    private static void sheet() {
        LavenderParts x = new LavenderParts();
        due.is("8 bits", x.sheet(0, 8, 40), 40);
        due.is("16 bits", x.sheet(1, 16, 0), 0);
        due.is("32 bits", x.sheet(3, 32, 7), 7);
        due.is("it is there", x.load(1), 0);
        due.is("missing", x.sheet(3, 0, 7), 0);
        due.is("it is missing", x.load(3), Due.MISSING);
        due.is("sheet 4", x.sheet(4, 8, 1), Due.BEYOND);
        due.is("sheet -1", x.sheet(-1, 8, -1), Due.BEYOND);
        due.is("other bits", x.sheet(0, 24, -1), Due.BEYOND);
        due.is("negative bits", x.sheet(0, -8, 1), Due.BEYOND);
        due.is("n -1", x.sheet(0, 8, -1), Due.SIZE);
        due.is("n -1 with bits 0", x.sheet(0, 0, -1), Due.SIZE);
        due.is("n 41", x.sheet(0, 8, 41), Due.BEYOND);
        due.is("n 41 with bits 0", x.sheet(0, 0, 41), Due.BEYOND);
        due.is("it stays", x.write(0, 39, 5), 1);
        x.write(0, 0, 5);
        x.write(0, 1, 5);
        x.sheet(0, 8, 40);
        x.singer(0, 7);
        x.singer(0, 7);
        due.is("the first are 0", x.judge(0), 3);
        x.copy(0, 39, 0, 1, 1);
        due.is("and so is the last", x.judge(0), 3);
    }

    private static void write() {
        LavenderParts x = new LavenderParts();
        due.is("sheet 4", x.write(4, 0, 0), Due.BEYOND);
        due.is("sheet -1", x.write(-1, 0, 0), Due.BEYOND);
        due.is("missing", x.write(0, 50, 0), Due.MISSING);
        x.sheet(0, 8, 3);
        due.is("number 3", x.write(0, 3, 0), Due.BEYOND);
        due.is("number -1", x.write(0, -1, 0), Due.BEYOND);
        due.is("number 2", x.write(0, 2, 0), 1);
        x.singer(0, 0);
        int[][] rows = {
            {8, 300, 44}, {8, 127, 127}, {8, 128, 0}, {16, 40000, 0}, {16, 65536 + 32767, 32767},
            {16, 9999, 9999}, {32, 9999, 9999}, {32, 65536 + 5, 0},
        };
        for (int[] row : rows) {
            x.sheet(0, row[0], 1);
            x.write(0, 0, row[1]);
            x.change(0, 9, row[2] % 10000);
            boolean isSame = row[2] > 0 && row[2] < 10000;
            due.is(row[1] + " of " + row[0] + " bits", x.judge(0), isSame ? 0 : 1);
        }
    }

    /** Tells by judge() whether a sheet's numbers are these. */
    private static void holds(LavenderParts x, int s, int... numbers) {
        for (int i = 0; i < numbers.length; i++) {
            x.change(i, 9, numbers[i]);
        }
        due.is("sheet " + s, x.judge(s), 0);
    }

    private static LavenderParts eight() {
        LavenderParts x = new LavenderParts();
        for (int i = 0; i < 8; i++) {
            x.singer(0, 0);
        }
        return x;
    }

    private static void copy() {
        LavenderParts x = eight();
        Due.lay(x, 0, 1, 2, 3, 4, 5);
        Due.lay(x, 1, 0, 0, 0);
        due.is("copy", x.copy(0, 1, 1, 0, 3), 3);
        holds(x, 1, 2, 3, 4);
        due.is("up", x.copy(0, 0, 0, 1, 4), 4);
        holds(x, 0, 1, 1, 2, 3, 4);
        due.is("down", x.copy(0, 1, 0, 0, 4), 4);
        holds(x, 0, 1, 2, 3, 4, 4);
        due.is("none", x.copy(0, 5, 1, 3, 0), 0);
        holds(x, 1, 2, 3, 4);
    }

    private static void copyFindings() {
        LavenderParts x = eight();
        due.is("sheet 4", x.copy(4, 0, 0, 0, 0), Due.BEYOND);
        due.is("to sheet -1", x.copy(0, 0, -1, 0, 0), Due.BEYOND);
        Due.lay(x, 0, 1, 2, 3);
        due.is("to a missing one", x.copy(0, 0, 1, 0, -1), Due.MISSING);
        due.is("from a missing one", x.copy(1, 0, 0, 0, -1), Due.MISSING);
        x.sheet(1, 16, 3);
        due.is("other bits", x.copy(0, 0, 1, 0, -1), Due.KIND);
        Due.lay(x, 1, 7, 8);
        int most = Integer.MAX_VALUE;
        int[][] rows = {
            {-1, 0, 1}, {0, -1, 1}, {0, 0, -1}, {0, 0, 3}, {2, 0, 2}, {0, 1, 2}, {4, 0, 0}, {0, 3, 0},
            {most, 0, 1}, {0, most, 1}, {1, 1, most}, {most, most, most}, {0, 0, Integer.MIN_VALUE},
        };
        for (int[] row : rows) {
            due.is("from " + row[0] + " to " + row[1] + " n " + row[2],
                x.copy(0, row[0], 1, row[1], row[2]), Due.BEYOND);
        }
        holds(x, 1, 7, 8);
    }

    private static void load() {
        LavenderParts x = new LavenderParts();
        due.is("sheet 4", x.load(4), Due.BEYOND);
        due.is("sheet -1", x.load(-1), Due.BEYOND);
        due.is("missing", x.load(2), Due.MISSING);
        Due.lay(x, 2, 59, 0, 17);
        due.is("nobody is there", x.load(2), 0);
        x.singer(0, 5);
        x.singer(0, 5);
        due.is("two", x.load(2), 2);
        due.is("first", x.of(0, 1), 59);
        due.is("second", x.of(1, 1), 0);
        Due.lay(x, 2, 8, 60);
        due.is("to the first that isn't a date", x.load(2), 1);
        due.is("first", x.of(0, 1), 8);
        due.is("second", x.of(1, 1), 0);
        Due.lay(x, 2, -1, 3);
        due.is("not one", x.load(2), 0);
        Due.lay(x, 2, 9);
        due.is("a short one", x.load(2), 1);
        due.is("first", x.of(0, 1), 9);
    }

    private static void judge() {
        LavenderParts x = new LavenderParts();
        due.is("sheet 4", x.judge(4), Due.BEYOND);
        due.is("sheet -1", x.judge(-1), Due.BEYOND);
        due.is("missing", x.judge(0), Due.MISSING);
        Due.lay(x, 0);
        due.is("an empty one", x.judge(0), 0);
        Due.lay(x, 0, 0);
        due.is("nobody is there", x.judge(0), 1);
        x.singer(0, 0);
        x.singer(0, 0);
        x.change(1, 9, 33);
        due.is("a short one", x.judge(0), 0);
        Due.lay(x, 0, 0, 33);
        due.is("so", x.judge(0), 0);
        Due.lay(x, 0, 0, 34);
        due.is("second isn't so", x.judge(0), 2);
        Due.lay(x, 0, 1, 34);
        due.is("first isn't so", x.judge(0), 1);
        Due.lay(x, 0, -1, 33);
        due.is("-1 isn't any here", x.judge(0), 1);
        Due.lay(x, 0, 0, 33, 0);
        due.is("a long one", x.judge(0), 3);
        due.is("no finding but the first three", x.status(-1), 3);
    }
}
