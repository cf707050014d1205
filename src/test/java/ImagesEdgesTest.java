/** Promises 36 to 40: every boundary that the document's words name for images. */
public final class ImagesEdgesTest {
    private static final Due due = new Due();

    public static void main(String[] args) {
        promise36OfAnEmptySquare();
        promise36OfAFullSquare();
        promise36AllButTapeAndSheets();
        promise37NothingIsKept();
        promise37TheLatestStays();
        promise37WhoCameLater();
        promise38Tear();
        promise39What();
        promise39LeastAndMost();
        promise40Which();
        promise40EachFinding();
        promise40NoFindings();
        promise40UndoTakesNoneBack();
        due.end();
    }

    private static void promise36OfAnEmptySquare() {
        due.promise(36, "All but THE TAPE and SHEETS is kept: 1.");
        LavenderParts x = new LavenderParts();
        due.is("image", x.image(), 1);
        x.singer(4, 5);
        x.go(7);
        x.hold(1, 0);
        x.seed(9);
        due.is("undo", x.undo(), 0);
        int[] counts = {0, 0, 0, 0, 0, 0, 1, 0};
        for (int what = 0; what < counts.length; what++) {
            due.is("count " + what, x.count(what), counts[what]);
        }
        due.is("nobody is there", x.of(0, 0), Due.BEYOND);
        due.is("the first comes again", x.singer(0, 0), 0);
    }

    private static void promise36OfAFullSquare() {
        due.promise(36, "All but THE TAPE and SHEETS is kept: 1.");
        LavenderParts x = Due.plain(8);
        int[] most = {6, 59, 0, 99, 120, 9, 1, 99, 99, 9999};
        for (int what = 0; what < 10; what++) {
            x.change(7, what, most[what]);
        }
        for (int spot = 0; spot < 10; spot++) {
            x.hold(spot, 7);
        }
        x.seed(Due.LEAST);
        x.go(3);
        x.change(0, 6, 1);
        x.image();
        x.change(0, 6, 0);
        int[] least = {0, 0, -1, 0, 0, 1, 0, 0, 0, 0};
        for (int what = 0; what < 10; what++) {
            x.change(7, what, least[what]);
        }
        for (int spot = 0; spot < 10; spot++) {
            x.hold(spot, spot % 3 - 1);
        }
        x.spring(1);
        x.go(60);
        due.is("undo", x.undo(), 3);
        for (int what = 0; what < 10; what++) {
            due.is("what " + what + " of the eighth", x.of(7, what), most[what]);
        }
        for (int spot = 0; spot < 10; spot++) {
            due.is("spot " + spot, x.as(spot, 6), 7);
        }
        due.is("z", x.count(6), Due.LEAST);
        due.is("who is dead", x.now(5), 129);
        due.is("day", x.now(0), 3);
        due.is("still", x.now(3), 0);
        due.is("who sings", x.now(1), 126);
    }

    private static void promise36AllButTapeAndSheets() {
        due.promise(36, "All but THE TAPE and SHEETS is kept");
        LavenderParts x = Due.plain(2);
        x.feed(0x6C61, 2);
        Due.layOfBits(x, 0, 8, 7, 8);
        x.sheet(1, 16, 3);
        x.image();
        x.feed(0x7374, 2);
        Due.layOfBits(x, 0, 16, 5, 6);
        x.sheet(1, 0, 0);
        x.sheet(2, 8, 1);
        x.undo();
        due.is("bytes", x.count(5), 4);
        x.change(0, 9, 5);
        x.change(1, 9, 6);
        due.is("a sheet's numbers", x.judge(0), 0);
        due.is("a sheet that is missing since", x.judge(1), Due.MISSING);
        due.is("a sheet that is there since", x.write(2, 0, 1), 1);
        due.is("the text", x.text(), 1);
    }

    private static void promise37NothingIsKept() {
        due.promise(37, "NONE: nothing is kept.");
        LavenderParts x = Due.plain(1);
        x.go(4);
        due.is("undo", x.undo(), Due.NONE);
        due.is("day stays", x.now(0), 4);
        due.is("who is there stays", x.count(1), 1);
        x.image();
        due.is("undo behind an image", x.undo(), 4);
        x.tear();
        due.is("undo behind tear", x.undo(), Due.NONE);
    }

    private static void promise37TheLatestStays() {
        due.promise(37, "It becomes what was kept latest (which stays): DAY.");
        LavenderParts x = Due.plain(1);
        x.image();
        x.go(2);
        x.image();
        x.go(3);
        due.is("the latest", x.undo(), 2);
        x.go(1);
        due.is("it stays", x.undo(), 2);
        due.is("at once again", x.undo(), 2);
        // What becomes of the square behind that is nothing to the image.
        x.change(0, 3, 1);
        x.go(60);
        due.is("as it was kept", x.undo(), 2);
        due.is("voice", x.of(0, 3), 60);
        due.is("left", x.of(0, 7), 2);
        due.is("sold", x.of(0, 9), 12);
    }

    private static void promise37WhoCameLater() {
        due.promise(37, "It becomes what was kept latest");
        LavenderParts x = Due.plain(1);
        x.image();
        x.singer(3, 9);
        int[] most = {6, 59, 0, 99, 120, 9, 1, 99, 99, 9999};
        for (int what = 0; what < 10; what++) {
            x.change(1, what, most[what]);
        }
        x.hold(0, 1);
        x.undo();
        due.is("she is gone", x.of(1, 0), Due.BEYOND);
        due.is("whom nobody holds", x.count(7), 0);
        due.is("another one comes", x.singer(2, 4), 1);
        int[] first = {2, 4, -1, 60, 30, 3, 0, 0, 0, 0};
        for (int what = 0; what < 10; what++) {
            due.is("what " + what + " as at first", x.of(1, what), first[what]);
        }
    }

    private static void promise38Tear() {
        due.promise(38, "Nothing is kept: 1 if something was, else 0.");
        LavenderParts x = Due.plain(1);
        due.is("nothing was", x.tear(), 0);
        x.image();
        x.image();
        x.go(5);
        due.is("something was", x.tear(), 1);
        due.is("nothing is", x.tear(), 0);
        due.is("day stays", x.now(0), 5);
        x.image();
        due.is("something is again", x.tear(), 1);
        due.is("no finding", x.status(-1), 0);
    }

    private static void promise39What() {
        due.promise(39, "BEYOND: another what.");
        LavenderParts x = Due.plain(1);
        for (int what : new int[] {Due.LEAST, -1, 8, Due.MOST}) {
            due.is("count " + what, x.count(what), Due.BEYOND);
        }
    }

    private static void promise39LeastAndMost() {
        due.promise(39, "0 DAY, 1 SINGERS, 2 SOLD of all together, 3 STILL, 4 how many are DEAD, 5 bytes of THE TAPE, 6 z, 7 SPOTS that hold something.");
        LavenderParts x = new LavenderParts();
        int[] least = {0, 0, 0, 0, 0, 0, 1, 0};
        for (int what = 0; what < 8; what++) {
            due.is("count " + what + " at first", x.count(what), least[what]);
        }
        for (int who = 0; who < 8; who++) {
            x.singer(0, 0);
            x.change(who, 6, 1);
            x.change(who, 9, 9999);
        }
        for (int i = 0; i < 30; i++) {
            x.feed(0, 4);
        }
        for (int spot = 0; spot < 10; spot++) {
            x.hold(spot, 0);
        }
        x.seed(Due.MOST);
        x.go(60);
        x.go(1);
        int[] most = {61, 8, 79992, 61, 8, 120, Due.MOST, 10};
        for (int what = 0; what < 8; what++) {
            due.is("count " + what, x.count(what), most[what]);
        }
    }

    private static void promise40Which() {
        due.promise(40, "BEYOND (counted from then on): another one.");
        LavenderParts x = new LavenderParts();
        int told = 0;
        for (int which : new int[] {Due.LEAST, -2, 7, Due.MOST}) {
            due.is("BEYOND ahead of " + which, x.status(0), told);
            due.is("status " + which, x.status(which), Due.BEYOND);
            told++;
            due.is("BEYOND behind " + which, x.status(0), told);
            due.is("all behind " + which, x.status(-1), told);
        }
    }

    private static void promise40EachFinding() {
        due.promise(40, "which -1: all, 0 to 6: BEYOND to SIZE.");
        LavenderParts x = Due.plain(8);
        x.hold(0, 0);
        x.change(0, 6, 1);
        long[] answers = {
            x.now(8), x.singer(0, 0), x.as(0, 1), x.undo(), x.strike(0), x.load(0), x.sheet(0, 8, -1),
        };
        due.promise(40, "LOW is -1000001; LOW BEYOND, LOW - 1 FULL, LOW - 2 KIND, LOW - 3 NONE, LOW - 4 STATE, LOW - 5 MISSING, LOW - 6 SIZE (in longs, too)");
        for (int which = 0; which < 7; which++) {
            due.is("finding " + which, answers[which], -1000001 - which);
            due.is("status " + which, x.status(which), 1);
        }
        due.is("all", x.status(-1), 7);
        due.is("in longs, too", x.odds(0, 2), -1000001L);
        due.is("BEYOND", x.status(0), 2);
        due.is("all", x.status(-1), 8);
        for (int which = 1; which < 7; which++) {
            due.is("status " + which + " yet", x.status(which), 1);
        }
    }

    private static void promise40NoFindings() {
        due.promise(40, "How many acts answered a finding ever");
        LavenderParts x = new LavenderParts();
        x.seed(Due.SIZE);
        due.is("z that looks like one", x.count(6), Due.SIZE);
        due.is("what it was looks like one", x.seed(1), Due.SIZE);
        due.is("a fault", Due.read(x, "cat"), -1);
        due.is("nobody to answer", x.singer(0, 0) + x.answerFor(0, 5), -1);
        due.is("none was told", x.status(-1), 0);
    }

    private static void promise40UndoTakesNoneBack() {
        due.promise(40, "(undo() takes none back)");
        LavenderParts x = new LavenderParts();
        x.now(9);
        x.image();
        x.now(9);
        x.load(0);
        x.undo();
        due.is("BEYOND", x.status(0), 2);
        due.is("MISSING", x.status(5), 1);
        x.tear();
        x.undo();
        due.is("NONE", x.status(3), 1);
        due.is("all", x.status(-1), 4);
    }
}
