/** Promises 1 to 6: every boundary that the document's words name for singers. */
public final class SingersEdgesTest {
    private static final Due due = new Due();

    public static void main(String[] args) {
        promise1AllAsAtFirst();
        promise1NothingIsShared();
        promise2AtMostEight();
        promise2KindsAndDates();
        promise2AsAtFirst();
        promise3WhoAndWhat();
        promise3Gap();
        promise3GapOfACaroller();
        promise3Lasts();
        promise3Sells();
        promise3SellsOfASister();
        promise3SellsOfALast();
        promise3Wears();
        promise4LeastAndMost();
        promise4WhomSheAnswers();
        promise4WhoAndWhat();
        promise4WhatItWas();
        promise5Answerers();
        promise6Strike();
        promise6TheDead();
        due.end();
    }

    private static void promise1AllAsAtFirst() {
        due.promise(1, "All as at first; no SINGERS; THE TAPE is empty, no image is kept.");
        LavenderParts x = new LavenderParts();
        due.is("SINGERS", x.count(1), 0);
        due.is("singer 0", x.of(0, 0), Due.BEYOND);
        due.is("bytes of the tape", x.count(5), 0);
        due.is("wipe()", x.wipe(), 0);
        due.is("undo()", x.undo(), Due.NONE);
        due.is("tear()", x.tear(), 0);
        due.is("DAY", x.now(0), 0);
        due.is("DATE", x.now(7), 0);
        due.is("SOLD of all", x.now(4), 0);
        due.is("VOICES of all", x.now(6), 0);
        for (int set : new int[] {1, 2, 5}) {
            due.is("set " + set, x.now(set), 0);
        }
        due.promise(1, "STILL (DAYS in a row on which nobody sang; 0 to 99999; 0 at first).");
        due.is("STILL", x.now(3), 0);
        due.promise(1, "z is told (1 at first)");
        due.is("z", x.count(6), 1);
        due.promise(1, "SPOTS 0 to 9 hold a SINGER or nothing (at first).");
        due.is("spots that hold something", x.count(7), 0);
        for (int spot = 0; spot < 10; spot++) {
            due.is("spot " + spot, x.as(spot, 0), Due.MISSING);
        }
        due.promise(1, "rows of at most 40 numbers of 8, 16 or 32 bits, or MISSING (at first).");
        for (int s = 0; s < 4; s++) {
            due.is("sheet " + s, x.judge(s), Due.MISSING);
        }
        due.promise(1, "FINDINGS are answers below -1000000");
        LavenderParts y = new LavenderParts();
        for (int which = -1; which < 7; which++) {
            due.is("status " + which, y.status(which), 0);
        }
    }

    private static void promise1NothingIsShared() {
        due.promise(1, "All as at first");
        LavenderParts used = new LavenderParts();
        Due.read(used, "singer begins 5 voice 7 aged 9 part 2;dead 0;sings 0 9");
        used.go(3);
        used.hold(0, 0);
        used.sheet(0, 8, 3);
        used.feed(0, 4);
        used.image();
        used.seed(9);
        used.now(9);
        LavenderParts x = new LavenderParts();
        int[] counts = {0, 0, 0, 0, 0, 0, 1, 0};
        for (int what = 0; what < counts.length; what++) {
            due.is("count " + what + " beside a used one", x.count(what), counts[what]);
        }
        due.is("status beside a used one", x.status(-1), 0);
        due.is("sheet beside a used one", x.load(0), Due.MISSING);
        due.is("image beside a used one", x.undo(), Due.NONE);
        x.singer(0, 0);
        due.is("voice beside a used one", x.of(0, 3), 60);
    }

    private static void promise2AtMostEight() {
        due.promise(2, "SINGERS 0, 1, .. (at most 8)");
        LavenderParts x = new LavenderParts();
        for (int i = 0; i < 8; i++) {
            due.is("singer " + i, x.singer(0, i), i);
        }
        due.is("a ninth", x.singer(0, 8), Due.FULL);
        due.is("a tenth", x.singer(6, 59), Due.FULL);
        due.is("how many", x.count(1), 8);
        due.is("the eighth's date", x.of(7, 1), 7);
        due.promise(2, "BEYOND. FULL.");
        due.is("a ninth of no kind", x.singer(7, 0), Due.BEYOND);
        due.is("a ninth on no date", x.singer(0, 60), Due.BEYOND);
    }

    private static void promise2KindsAndDates() {
        LavenderParts x = new LavenderParts();
        due.promise(2, "BEYOND.");
        for (int no : new int[] {Due.LEAST, -1, 7, Due.MOST}) {
            due.is("kind " + no, x.singer(no, 0), Due.BEYOND);
        }
        due.promise(2, "a DATE on which she BEGINS (0 to 59; 0 at first)");
        for (int no : new int[] {Due.LEAST, -1, 60, Due.MOST}) {
            due.is("date " + no, x.singer(0, no), Due.BEYOND);
        }
        due.is("nobody came", x.count(1), 0);
        due.is("least of both", x.singer(0, 0), 0);
        due.is("most of both", x.singer(6, 59), 1);
        due.is("least date", x.of(0, 1), 0);
        due.is("most date", x.of(1, 1), 59);
        due.is("most kind", x.of(1, 0), 6);
    }

    private static void promise2AsAtFirst() {
        LavenderParts x = Due.plain(1);
        due.promise(2, "ANSWERS (another one, or -1: nobody, at first)");
        due.is("answers", x.of(0, 2), -1);
        due.promise(2, "a VOICE (0 to 99; 60 at first)");
        due.is("voice", x.of(0, 3), 60);
        due.promise(2, "an AGE (0 to 120; 30 at first)");
        due.is("age", x.of(0, 4), 30);
        due.promise(2, "PART (DAYS; 1 to 9; 3 at first)");
        due.is("part", x.of(0, 5), 3);
        due.promise(2, "DEAD or not (1, 0; 0 at first)");
        due.is("dead", x.of(0, 6), 0);
        due.promise(2, "LEFT (DAYS that she sings yet; 0: she doesn't sing; 0 to 99; 0 at first)");
        due.is("left", x.of(0, 7), 0);
        due.promise(2, "WAITS (DAYS till she comes in; 0: she doesn't wait; 0 to 99; 0 at first)");
        due.is("waits", x.of(0, 8), 0);
        due.promise(2, "SOLD (bunches; 0 to 9999; 0 at first)");
        due.is("sold", x.of(0, 9), 0);
    }

    private static void promise3WhoAndWhat() {
        due.promise(3, "BEYOND.");
        LavenderParts x = Due.plain(2);
        for (int what : new int[] {Due.LEAST, -1, 14, Due.MOST}) {
            due.is("what " + what, x.of(0, what), Due.BEYOND);
        }
        for (int who : new int[] {Due.LEAST, -1, 2, 8, Due.MOST}) {
            due.is("singer " + who, x.of(who, 0), Due.BEYOND);
        }
        due.is("least what", x.of(1, 0), 0);
        due.is("most what", x.of(1, 13), 2);
        LavenderParts y = Due.plain(8);
        due.is("the eighth", y.of(7, 3), 60);
        due.is("no ninth", y.of(8, 3), Due.BEYOND);
    }

    private static void promise3Gap() {
        LavenderParts x = Due.oneOfEach();
        int[] ages = {0, 9, 10, 19, 20, 109, 110, 119, 120};
        int[] tenths = {0, 0, 1, 1, 2, 10, 11, 11, 12};
        for (int i = 0; i < ages.length; i++) {
            for (int who = 0; who < 7; who++) {
                x.change(who, 4, ages[i]);
            }
            due.promise(3, "SISTER: as a SINGER, and a tenth (cut) of AGE.");
            due.is("gap of a sister of " + ages[i], x.of(1, 10), 1 + tenths[i]);
            due.promise(3, "ELDER: twice a SISTER.");
            due.is("gap of an elder of " + ages[i], x.of(3, 10), 2 + 2 * tenths[i]);
            due.promise(3, "LAST: as an ELDER, and 5.");
            due.is("gap of a last of " + ages[i], x.of(4, 10), 7 + 2 * tenths[i]);
            due.promise(3, "GAP (DAYS): SINGER: 1.");
            due.is("gap of a singer of " + ages[i], x.of(0, 10), 1);
            due.is("gap of a cabman of " + ages[i], x.of(2, 10), 3);
            due.is("gap of a child of " + ages[i], x.of(5, 10), 1);
            due.is("gap of a caroller of " + ages[i], x.of(6, 10), 2);
        }
    }

    private static void promise3GapOfACaroller() {
        due.promise(3, "CAROLLER: as a CABMAN, less 1, if VOICE is 50 or more.");
        LavenderParts x = Due.oneOfEach();
        int[][] rows = {{0, 3}, {49, 3}, {50, 2}, {51, 2}, {99, 2}};
        for (int[] row : rows) {
            x.change(6, 3, row[0]);
            x.change(2, 3, row[0]);
            due.is("gap at voice " + row[0], x.of(6, 10), row[1]);
            due.is("gap of a cabman at voice " + row[0], x.of(2, 10), 3);
        }
    }

    private static void promise3Lasts() {
        LavenderParts x = Due.oneOfEach();
        due.promise(3, "ELDER: as a SISTER, and a twentieth (cut) of AGE.");
        int[][] ages = {{0, 0}, {19, 0}, {20, 1}, {39, 1}, {40, 2}, {99, 4}, {100, 5}, {119, 5}, {120, 6}};
        for (int[] row : ages) {
            x.change(3, 4, row[0]);
            x.change(4, 4, row[0]);
            x.change(1, 4, row[0]);
            due.is("lasts of an elder of " + row[0], x.of(3, 11), 4 + row[1]);
            due.is("lasts of a last of " + row[0], x.of(4, 11), 4 + row[1]);
            due.is("lasts of a sister of " + row[0], x.of(1, 11), 4);
        }
        int[] halves = {0, 1, 1, 2, 2, 3, 3, 4, 4};
        for (int part = 1; part <= 9; part++) {
            for (int who = 0; who < 7; who++) {
                x.change(who, 5, part);
            }
            due.promise(3, "LASTS (DAYS that she sings): SINGER: PART. SISTER: as a SINGER, and 1.");
            due.is("lasts of a singer of part " + part, x.of(0, 11), part);
            due.is("lasts of a sister of part " + part, x.of(1, 11), part + 1);
            due.promise(3, "CABMAN: half (cut) of a SINGER, and 1. CAROLLER: as a CABMAN, and 2. CHILD: 1.");
            due.is("lasts of a cabman of part " + part, x.of(2, 11), halves[part - 1] + 1);
            due.is("lasts of a caroller of part " + part, x.of(6, 11), halves[part - 1] + 3);
            due.is("lasts of a child of part " + part, x.of(5, 11), 1);
        }
        due.promise(3, "LAST: as an ELDER.");
        due.is("the longest", x.of(4, 11), 16);
    }

    private static void promise3Sells() {
        due.promise(3, "SINGER: a tenth (cut) of VOICE.");
        LavenderParts x = Due.oneOfEach();
        int[][] rows = {{0, 0}, {9, 0}, {10, 1}, {19, 1}, {20, 2}, {89, 8}, {90, 9}, {99, 9}};
        for (int[] row : rows) {
            for (int who = 0; who < 7; who++) {
                x.change(who, 3, row[0]);
            }
            int tenth = row[1];
            int[] sells = {tenth, tenth, 1, tenth, 16, tenth + 3, 3};
            for (int who = 0; who < 7; who++) {
                due.is("sells of kind " + who + " at voice " + row[0], x.of(who, 12), sells[who]);
            }
        }
    }

    private static void promise3SellsOfASister() {
        due.promise(3, "SISTER: as a SINGER, and 1, if whom she ANSWERS isn't DEAD. ELDER: as a SISTER.");
        LavenderParts x = Due.plain(2);
        for (int kind : new int[] {1, 3}) {
            x.change(1, 0, kind);
            x.change(1, 2, -1);
            due.is("answers nobody, kind " + kind, x.of(1, 12), 6);
            x.change(1, 2, 0);
            due.is("answers one alive, kind " + kind, x.of(1, 12), 7);
            x.change(0, 6, 1);
            due.is("answers one dead, kind " + kind, x.of(1, 12), 6);
            x.change(0, 6, 0);
            x.change(1, 6, 1);
            due.is("is dead herself, kind " + kind, x.of(1, 12), 7);
            x.change(1, 6, 0);
        }
        for (int kind : new int[] {0, 2, 5, 6}) {
            x.change(1, 0, kind);
            int[] sells = {6, 0, 1, 0, 0, 9, 3};
            due.is("no sister, kind " + kind, x.of(1, 12), sells[kind]);
        }
    }

    private static void promise3SellsOfALast() {
        due.promise(3, "LAST: 16, if nobody else sings, else as an ELDER.");
        LavenderParts x = Due.plain(3);
        x.change(0, 0, 4);
        due.is("nobody sings", x.of(0, 12), 16);
        x.change(0, 7, 1);
        due.is("she alone sings", x.of(0, 12), 16);
        x.change(2, 7, 1);
        due.is("another sings, too", x.of(0, 12), 6);
        x.change(0, 2, 1);
        due.is("another sings, and whom she answers is alive", x.of(0, 12), 7);
        x.change(0, 7, 0);
        due.is("another sings alone", x.of(0, 12), 7);
        x.change(2, 6, 1);
        due.is("the other is dead", x.of(0, 12), 16);
        x.change(1, 8, 5);
        due.is("another waits", x.of(0, 12), 16);
    }

    private static void promise3Wears() {
        LavenderParts x = Due.oneOfEach();
        due.promise(3, "WEARS (of a CHILD: -5, or 0 from AGE 15 on)");
        int[][] rows = {{0, -5}, {14, -5}, {15, 0}, {16, 0}, {120, 0}};
        for (int[] row : rows) {
            x.change(5, 4, row[0]);
            due.is("wears of a child of " + row[0], x.of(5, 13), row[1]);
        }
        x.change(5, 4, 3);
        x.change(5, 3, 99);
        due.is("wears of a child at the most voice", x.of(5, 13), -5);
        due.promise(3, "ELDER: twice a SISTER. LAST: as an ELDER, less 1. CABMAN: 0. CAROLLER: as a CABMAN, and 1.");
        int[] wears = {2, 2, 0, 4, 3, -5, 1};
        for (int who = 0; who < 7; who++) {
            x.change(who, 3, 0);
            due.is("wears of kind " + who + " at voice 0", x.of(who, 13), wears[who]);
        }
    }

    /** Sets a thing to its edges, and to what is just and far beyond them. */
    private static void edges(String words, int what, int least, int most) {
        due.promise(4, words);
        LavenderParts x = Due.plain(2);
        int first = x.of(1, what);
        due.is("to the most", x.change(1, what, most), first);
        due.is("it is the most", x.of(1, what), most);
        for (int v : new int[] {most + 1, Due.MOST, least - 1, Due.LEAST}) {
            due.is("to " + v, x.change(1, what, v), Due.BEYOND);
            due.is("as it was behind " + v, x.of(1, what), most);
        }
        due.is("to the least", x.change(1, what, least), most);
        due.is("it is the least", x.of(1, what), least);
        due.is("of another one", x.of(0, what), first);
    }

    private static void promise4LeastAndMost() {
        edges("KIND (what 0)", 0, 0, 6);
        edges("a DATE on which she BEGINS (0 to 59; 0 at first)", 1, 0, 59);
        edges("ANSWERS (2; -1, too; not herself)", 2, -1, 0);
        edges("a VOICE (0 to 99; 60 at first)", 3, 0, 99);
        edges("an AGE (0 to 120; 30 at first)", 4, 0, 120);
        edges("PART (DAYS; 1 to 9; 3 at first)", 5, 1, 9);
        edges("DEAD or not (1, 0; 0 at first)", 6, 0, 1);
        edges("LEFT (DAYS that she sings yet; 0: she doesn't sing; 0 to 99; 0 at first)", 7, 0, 99);
        edges("WAITS (DAYS till she comes in; 0: she doesn't wait; 0 to 99; 0 at first)", 8, 0, 99);
        edges("SOLD (bunches; 0 to 9999; 0 at first)", 9, 0, 9999);
    }

    private static void promise4WhomSheAnswers() {
        due.promise(4, "ANSWERS (2; -1, too; not herself)");
        LavenderParts x = Due.plain(3);
        for (int who = 0; who < 3; who++) {
            for (int v = -2; v <= 3; v++) {
                int was = x.of(who, 2);
                int want = v >= -1 && v < 3 && v != who ? was : Due.BEYOND;
                due.is(who + " answers " + v, x.change(who, 2, v), want);
            }
            x.change(who, 2, -1);
        }
        due.is("one who isn't there yet", x.change(0, 2, 3), Due.BEYOND);
        x.singer(0, 0);
        due.is("one who is there now", x.change(0, 2, 3), -1);
        due.is("one who answers her", x.change(3, 2, 0), -1);
        LavenderParts y = Due.plain(8);
        due.is("the eighth", y.change(0, 2, 7), -1);
        due.is("no ninth", y.change(0, 2, 8), Due.BEYOND);
        due.is("the eighth as before", y.of(0, 2), 7);
    }

    private static void promise4WhoAndWhat() {
        due.promise(4, "BEYOND.");
        LavenderParts x = Due.plain(1);
        for (int what : new int[] {Due.LEAST, -1, 10, 11, 12, 13, 14, Due.MOST}) {
            due.is("what " + what, x.change(0, what, 1), Due.BEYOND);
        }
        for (int who : new int[] {Due.LEAST, -1, 1, 7, 8, Due.MOST}) {
            due.is("singer " + who, x.change(who, 3, 1), Due.BEYOND);
        }
        due.is("voice stays", x.of(0, 3), 60);
    }

    private static void promise4WhatItWas() {
        due.promise(4, "of a SINGER becomes v: what it was.");
        LavenderParts x = Due.plain(1);
        due.is("voice to 0", x.change(0, 3, 0), 60);
        due.is("voice to 0 again", x.change(0, 3, 0), 0);
        due.is("kind to a last", x.change(0, 0, 4), 0);
        due.is("gap as a last", x.of(0, 10), 13);
        due.is("kind back", x.change(0, 0, 0), 4);
        due.is("gap as a singer", x.of(0, 10), 1);
        // Nothing but the one thing changes: the dead may sing yet, and who sings may wait.
        x.change(0, 7, 4);
        x.change(0, 8, 5);
        due.is("dead", x.change(0, 6, 1), 0);
        due.is("left of the dead", x.of(0, 7), 4);
        due.is("waits of the dead", x.of(0, 8), 5);
        due.is("alive again", x.change(0, 6, 0), 1);
        due.is("sings again", x.now(1), 1);
    }

    private static void promise5Answerers() {
        due.promise(5, "Who ANSWERS a SINGER, as a set. BEYOND.");
        LavenderParts x = Due.plain(8);
        for (int who : new int[] {Due.LEAST, -1, 8, Due.MOST}) {
            due.is("singer " + who, x.answerers(who), Due.BEYOND);
        }
        due.is("nobody", x.answerers(7), 0);
        for (int i = 0; i < 7; i++) {
            x.change(i, 2, 7);
        }
        due.is("all others", x.answerers(7), 127);
        x.change(7, 2, 0);
        due.is("the eighth", x.answerers(0), 128);
        x.change(3, 6, 1);
        due.is("the dead, too", x.answerers(7), 127);
        x.change(3, 2, -1);
        due.is("no more", x.answerers(7), 119);
        due.is("singer 1 of an empty square", new LavenderParts().answerers(0), Due.BEYOND);
    }

    private static void promise6Strike() {
        due.promise(6, "A SINGER begins now (LEFT is what she LASTS, WAITS 0): LEFT then.");
        LavenderParts x = Due.oneOfEach();
        int[] lasts = {3, 4, 2, 5, 5, 1, 4};
        for (int who = 0; who < 7; who++) {
            x.change(who, 8, 99);
            due.is("strike " + who, x.strike(who), lasts[who]);
            due.is("left " + who, x.of(who, 7), lasts[who]);
            due.is("waits " + who, x.of(who, 8), 0);
            due.is("sold " + who, x.of(who, 9), 0);
        }
        due.is("all sing", x.now(1), 127);
        x.change(0, 7, 99);
        due.is("one who sings begins anew", x.strike(0), 3);
        x.change(0, 5, 1);
        due.is("the shortest", x.strike(0), 1);
        x.change(4, 5, 9);
        x.change(4, 4, 120);
        due.is("the longest", x.strike(4), 16);
    }

    private static void promise6TheDead() {
        due.promise(6, "BEYOND. STATE: she is DEAD.");
        LavenderParts x = Due.plain(1);
        x.change(0, 6, 1);
        x.change(0, 7, 9);
        x.change(0, 8, 8);
        due.is("the dead", x.strike(0), Due.STATE);
        due.is("left stays", x.of(0, 7), 9);
        due.is("waits stays", x.of(0, 8), 8);
        for (int who : new int[] {Due.LEAST, -1, 1, 8, Due.MOST}) {
            due.is("singer " + who, x.strike(who), Due.BEYOND);
        }
        x.change(0, 6, 0);
        due.is("alive again", x.strike(0), 3);
    }
}
