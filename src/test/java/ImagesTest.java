/** Promises 36 to 40: image, undo, tear, count, status. */
public final class ImagesTest {
    private static final Due due = new Due();

    public static void main(String[] args) {
        undo();
        latest();
        tear();
        count();
        status();
        everyFindingCounts();
        due.end();
    }

    private static void undo() {
        LavenderParts x = new LavenderParts();
        x.singer(4, 3);
        x.singer(1, 9);
        x.change(1, 2, 0);
        x.go(5);
        x.hold(3, 1);
        x.seed(77);
        int[] own = {4, 3, -1, 60, 30, 3, 0, 4, 0, 32};
        due.is("image", x.image(), 1);
        x.go(60);
        x.singer(0, 0);
        x.hold(3, 2);
        x.hold(4, 2);
        for (int what = 0; what < 10; what++) {
            x.change(0, what, 1);
        }
        x.change(1, 2, 2);
        x.spring(3);
        x.undo();
        due.is("undo", x.undo(), 5);
        for (int what = 0; what < 10; what++) {
            due.is("as kept " + what, x.of(0, what), own[what]);
        }
        due.is("singers", x.count(1), 2);
        due.is("answers", x.of(1, 2), 0);
        due.is("spot 3", x.as(3, 1), 1);
        due.is("spot 4", x.as(4, 0), Due.MISSING);
        due.is("z", x.count(6), 77);
        due.is("still", x.now(3), 0);
        due.is("a new one is as at first", x.singer(0, 7) == 2 && x.of(2, 9) == 0 ? 1 : 0, 1);
    }

    /** The tape and the sheets aren't kept. */
    private static void latest() {
        LavenderParts x = new LavenderParts();
        due.is("nothing is kept", x.undo(), Due.NONE);
        x.sheet(0, 8, 2);
        x.feed(0, 3);
        x.image();
        x.go(2);
        x.image();
        x.go(3);
        x.sheet(0, 8, 4);
        x.sheet(1, 8, 4);
        x.feed(0, 4);
        due.is("the latest", x.undo(), 2);
        due.is("still", x.now(3), 2);
        due.is("the tape stays", x.count(5), 7);
        due.is("sheet 0 stays", x.write(0, 3, 1), 1);
        due.is("sheet 1 stays", x.write(1, 3, 1), 1);
    }

    private static void tear() {
        LavenderParts x = new LavenderParts();
        due.is("nothing was kept", x.tear(), 0);
        x.image();
        x.go(4);
        due.is("something was", x.tear(), 1);
        due.is("nothing is", x.tear(), 0);
        due.is("none", x.undo(), Due.NONE);
        due.is("day stays", x.now(0), 4);
    }

    private static void count() {
        LavenderParts x = new LavenderParts();
        x.singer(0, 0);
        x.singer(0, 59);
        x.singer(0, 59);
        x.change(1, 6, 1);
        x.change(1, 9, 1000);
        x.go(6);
        x.feed(0, 2);
        x.seed(-9);
        x.hold(0, 1);
        x.hold(9, 1);
        x.hold(5, 0);
        int[] counts = {6, 3, 1018, 3, 1, 2, -9, 3};
        for (int what = 0; what < counts.length; what++) {
            due.is("count " + what, x.count(what), counts[what]);
        }
        due.is("count 8", x.count(8), Due.BEYOND);
        due.is("count -1", x.count(-1), Due.BEYOND);
    }

    private static void status() {
        LavenderParts x = new LavenderParts();
        x.image();
        x.singer(9, 0);
        x.of(0, 0);
        for (int i = 0; i < 9; i++) {
            x.singer(0, 0);
        }
        x.hold(0, 0);
        x.as(0, 1);
        x.sings(0);
        x.change(0, 6, 1);
        x.sings(0);
        x.strike(0);
        x.load(0);
        x.sheet(0, 8, -1);
        x.text();
        for (int which = 0; which < 7; which++) {
            due.is("status " + which, x.status(which), new int[] {2, 1, 1, 1, 1, 1, 1}[which]);
        }
        due.is("all", x.status(-1), 8);
        due.is("status 7", x.status(7), Due.BEYOND);
        due.is("status -2", x.status(-2), Due.BEYOND);
        due.is("counted from then on", x.status(0), 4);
        due.is("all", x.status(-1), 10);
        x.undo();
        due.is("undo takes none back", x.status(-1), 10);
    }

    private static void everyFindingCounts() {
        LavenderParts x = new LavenderParts();
        x.odds(11, 0);
        x.copy(9, 0, 0, 0, 0);
        x.now(9);
        x.count(9);
        x.status(9);
        x.undo();
        due.is("beyond", x.status(0), 5);
        due.is("none", x.status(3), 1);
        due.is("all", x.status(-1), 6);
    }
}
