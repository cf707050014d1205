/** Promises 1 to 6: a new object, singer, of, change, answerers, strike. */
public final class SingersTest {
    private static final Due due = new Due();

    public static void main(String[] args) {
        aNewObject();
        singer();
        ofKinds();
        ofSells();
        change();
        answerers();
        strike();
        due.end();
    }

    private static void aNewObject() {
        LavenderParts x = new LavenderParts();
        int[] counts = {0, 0, 0, 0, 0, 0, 1, 0};
        for (int what = 0; what < counts.length; what++) {
            due.is("new count " + what, x.count(what), counts[what]);
        }
        for (int what = 0; what < 8; what++) {
            due.is("new now " + what, x.now(what), 0);
        }
        for (int which = -1; which < 7; which++) {
            due.is("new status " + which, x.status(which), 0);
        }
        due.is("new undo", x.undo(), Due.NONE);
        due.is("new tear", x.tear(), 0);
        due.is("new spot 9", x.as(9, 0), Due.MISSING);
        due.is("new sheet 3", x.load(3), Due.MISSING);
        due.is("new of", x.of(0, 0), Due.BEYOND);
    }

    private static void singer() {
        LavenderParts x = new LavenderParts();
        due.is("kind -1", x.singer(-1, 0), Due.BEYOND);
        due.is("kind 7", x.singer(7, 0), Due.BEYOND);
        due.is("date -1", x.singer(0, -1), Due.BEYOND);
        due.is("date 60", x.singer(0, 60), Due.BEYOND);
        for (int i = 0; i < 8; i++) {
            due.is("singer " + i, x.singer(i % 7, 59 - i), i);
        }
        due.is("a ninth", x.singer(0, 0), Due.FULL);
        due.is("a ninth of no kind", x.singer(7, 0), Due.BEYOND);
        due.is("how many", x.count(1), 8);
        int[] first = {6, 53, -1, 60, 30, 3, 0, 0, 0, 0};
        for (int what = 0; what < first.length; what++) {
            due.is("at first " + what, x.of(6, what), first[what]);
        }
    }

    private static LavenderParts oneOfEach() {
        LavenderParts x = new LavenderParts();
        for (int kind = 0; kind < 7; kind++) {
            x.singer(kind, kind);
        }
        return x;
    }

    private static void ofKinds() {
        LavenderParts x = oneOfEach();
        int[] gap = {1, 4, 3, 8, 13, 1, 2};
        int[] lasts = {3, 4, 2, 5, 5, 1, 4};
        int[] sells = {6, 6, 1, 6, 16, 9, 3};
        int[] wears = {2, 2, 0, 4, 3, 0, 1};
        for (int kind = 0; kind < 7; kind++) {
            due.is("kind of " + kind, x.of(kind, 0), kind);
            due.is("gap of " + kind, x.of(kind, 10), gap[kind]);
            due.is("lasts of " + kind, x.of(kind, 11), lasts[kind]);
            due.is("sells of " + kind, x.of(kind, 12), sells[kind]);
            due.is("wears of " + kind, x.of(kind, 13), wears[kind]);
            x.change(kind, 3, 49);
            x.change(kind, 4, 79);
            x.change(kind, 5, 8);
        }
        int[] laterGap = {1, 8, 3, 16, 21, 1, 3};
        int[] laterLasts = {8, 9, 5, 12, 12, 1, 7};
        int[] laterSells = {4, 4, 1, 4, 16, 7, 3};
        for (int kind = 0; kind < 7; kind++) {
            due.is("later gap of " + kind, x.of(kind, 10), laterGap[kind]);
            due.is("later lasts of " + kind, x.of(kind, 11), laterLasts[kind]);
            due.is("later sells of " + kind, x.of(kind, 12), laterSells[kind]);
        }
        x.change(6, 3, 50);
        due.is("gap of a caroller at 50", x.of(6, 10), 2);
        x.change(5, 4, 14);
        due.is("wears of a child of 14", x.of(5, 13), -5);
        x.change(5, 4, 15);
        due.is("wears of a child of 15", x.of(5, 13), 0);
        due.is("of what 14", x.of(0, 14), Due.BEYOND);
        due.is("of what -1", x.of(0, -1), Due.BEYOND);
        due.is("of singer 7", x.of(7, 0), Due.BEYOND);
        due.is("of singer -1", x.of(-1, 0), Due.BEYOND);
    }

    private static void ofSells() {
        LavenderParts x = oneOfEach();
        for (int kind = 1; kind < 7; kind++) {
            x.change(kind, 2, 0);
        }
        int[] alive = {6, 7, 1, 7, 16, 9, 3};
        int[] besideOne = {6, 7, 1, 7, 7, 9, 3};
        int[] dead = {6, 6, 1, 6, 16, 9, 3};
        for (int kind = 0; kind < 7; kind++) {
            due.is("sells, answers one alive, " + kind, x.of(kind, 12), alive[kind]);
        }
        x.change(4, 7, 9);
        due.is("a last who sings alone", x.of(4, 12), 16);
        x.change(0, 7, 9);
        for (int kind = 0; kind < 7; kind++) {
            due.is("sells beside one who sings, " + kind, x.of(kind, 12), besideOne[kind]);
        }
        x.change(0, 6, 1);
        for (int kind = 0; kind < 7; kind++) {
            due.is("sells, answers one dead, " + kind, x.of(kind, 12), dead[kind]);
        }
    }

    private static void change() {
        LavenderParts x = new LavenderParts();
        x.singer(0, 0);
        x.singer(0, 0);
        int[] first = {0, 0, -1, 60, 30, 3, 0, 0, 0, 0};
        int[] least = {0, 0, -1, 0, 0, 1, 0, 0, 0, 0};
        int[] most = {6, 59, 1, 99, 120, 9, 1, 99, 99, 9999};
        for (int what = 0; what < 10; what++) {
            due.is("change to most " + what, x.change(0, what, most[what]), first[what]);
            due.is("change to more " + what, x.change(0, what, most[what] + 1), Due.BEYOND);
            due.is("change to least " + what, x.change(0, what, least[what]), most[what]);
            due.is("change to less " + what, x.change(0, what, least[what] - 1), Due.BEYOND);
            due.is("it is " + what, x.of(0, what), least[what]);
            due.is("of the other " + what, x.of(1, what), first[what]);
        }
        due.is("answers herself", x.change(1, 2, 1), Due.BEYOND);
        due.is("answers nobody there", x.change(1, 2, 2), Due.BEYOND);
        due.is("change gap", x.change(0, 10, 1), Due.BEYOND);
        due.is("change what -1", x.change(0, -1, 1), Due.BEYOND);
        due.is("change of nobody", x.change(2, 1, 1), Due.BEYOND);
    }

    private static void answerers() {
        LavenderParts x = oneOfEach();
        due.is("nobody answers", x.answerers(3), 0);
        x.change(0, 2, 3);
        x.change(6, 2, 3);
        x.change(6, 6, 1);
        x.change(5, 2, 4);
        due.is("two answer", x.answerers(3), 65);
        due.is("one answers", x.answerers(4), 32);
        due.is("of nobody", x.answerers(7), Due.BEYOND);
        due.is("of -1", x.answerers(-1), Due.BEYOND);
    }

    private static void strike() {
        LavenderParts x = oneOfEach();
        x.change(3, 4, 120);
        x.change(3, 5, 9);
        x.change(3, 8, 7);
        due.is("strike", x.strike(3), 16);
        due.is("left", x.of(3, 7), 16);
        due.is("waits", x.of(3, 8), 0);
        due.is("who sings", x.now(1), 8);
        x.change(3, 7, 99);
        due.is("strike again", x.strike(3), 16);
        x.change(3, 6, 1);
        due.is("strike the dead", x.strike(3), Due.STATE);
        due.is("strike nobody", x.strike(7), Due.BEYOND);
        due.is("strike -1", x.strike(-1), Due.BEYOND);
    }
}
