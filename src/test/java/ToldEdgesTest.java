/** Promises 20 to 22: every boundary that the document's words name for told singing. */
public final class ToldEdgesTest {
    private static final Due due = new Due();

    public static void main(String[] args) {
        promise20NoSuchSheet();
        promise20FindingsInTheirOrder();
        promise20NowAndFurtherOn();
        promise20NothingAndAllTold();
        promise20Any();
        promise20AnyOfFewerBits();
        promise21TheLeast();
        promise21None();
        promise22Kinds();
        promise22NoKind();
        due.end();
    }

    private static void all(String call, LavenderParts x, int s, int singer, int want) {
        due.promise(20, "BEYOND: no such sheet. MISSING. BEYOND: no such SINGER.");
        due.is("fits, " + call, x.fits(s, singer), want);
        due.promise(21, "BEYOND, MISSING, BEYOND likewise.");
        due.is("date, " + call, x.date(s, singer), want);
        due.promise(22, "BEYOND: no such sheet. MISSING. BEYOND: no such SINGER.");
        due.is("kinds, " + call, x.kinds(s, singer), want);
    }

    private static void promise20NoSuchSheet() {
        LavenderParts x = Due.plain(1);
        for (int s : new int[] {Due.LEAST, -1, 4, Due.MOST}) {
            all("sheet " + s, x, s, 0, Due.BEYOND);
        }
        for (int s = 0; s < 4; s++) {
            all("sheet " + s + " is missing", x, s, 0, Due.MISSING);
        }
        x.sheet(3, 16, 1);
        due.promise(20, "SHEETS 0 to 3");
        due.is("fits by sheet 3", x.fits(3, 0), 60);
        for (int who : new int[] {Due.LEAST, -1, 1, 8, Due.MOST}) {
            all("singer " + who, x, 3, who, Due.BEYOND);
        }
    }

    /** Which of two findings it was shows in how many of each were told. */
    private static void promise20FindingsInTheirOrder() {
        LavenderParts x = new LavenderParts();
        all("no sheet and no singer", x, 4, 0, Due.BEYOND);
        all("a missing sheet and no singer", x, 0, 0, Due.MISSING);
        x.sheet(0, 8, 0);
        all("no singer", x, 0, 0, Due.BEYOND);
        x.sheet(0, 0, 0);
        all("a sheet that is missing again, and no singer", x, 0, -1, Due.MISSING);
        due.promise(20, "BEYOND: no such sheet. MISSING. BEYOND: no such SINGER.");
        due.is("how many were BEYOND", x.status(0), 6);
        due.is("how many were MISSING", x.status(5), 6);
    }

    private static void told(LavenderParts x, int fits, int date, int... left) {
        Due.lay(x, 0, left);
        due.is("fits", x.fits(0, 0), fits);
        due.is("date", x.date(0, 0), date);
    }

    private static void promise20NowAndFurtherOn() {
        due.promise(20, "LEFT of her now and behind each DAY further on is as a sheet tells");
        LavenderParts x = Due.plain(1);
        x.change(0, 7, 2);
        told(x, 60, 0, 2);
        told(x, 0, Due.NONE, 1);
        told(x, 60, 0, 2, 1);
        told(x, 60, 0, 2, 1, 0);
        told(x, 59, 0, 2, 1, 0, 0);
        told(x, 1, 2, 2, 1, 0, 3);
        told(x, 0, Due.NONE, 2, 1, 0, 2);
        told(x, 1, 2, -1, -1, -1, 3, 2, 1, 0);
        due.is("left stays", x.of(0, 7), 2);
        due.is("her date stays", x.of(0, 1), 0);
        due.promise(20, "How many DATES (0 to 59) there are");
        LavenderParts y = Due.plain(1);
        y.go(59);
        y.change(0, 7, 0);
        told(y, 1, 59, 0, 3);
        told(y, 1, 0, 0, 0, 3);
        told(y, 58, 1, 0, 0, 0);
    }

    private static void promise20NothingAndAllTold() {
        due.promise(20, "rows of at most 40 numbers");
        LavenderParts x = Due.plain(1);
        told(x, 60, 0);
        int[] left = new int[40];
        told(x, 21, 39, left);
        left[39] = 3;
        told(x, 1, 38, left);
        left[39] = 2;
        told(x, 0, Due.NONE, left);
        left[38] = 3;
        told(x, 1, 37, left);
        // A sheet of fewer numbers tells no more than these, whatever was there ahead of it.
        told(x, 59, 1, 0, 0);
    }

    private static void promise20Any() {
        due.promise(20, "(-1: any)");
        LavenderParts x = Due.plain(1);
        told(x, 60, 0, -1);
        told(x, 60, 0, -1, -1, -1);
        told(x, 1, 1, -1, -1, 3);
        told(x, 1, 0, -1, -1, 2);
        told(x, 0, Due.NONE, -2);
        told(x, 0, Due.NONE, 0, -2);
        told(x, 0, Due.NONE, Due.LEAST);
        told(x, 0, Due.NONE, Due.MOST);
        told(x, 0, Due.NONE, 255);
        x.change(0, 6, 1);
        x.change(0, 7, 9);
        due.promise(20, "LEFT of her now");
        told(x, 60, 0, 9, 9, 9);
        told(x, 0, Due.NONE, 9, 8);
        x.change(0, 6, 0);
        x.change(0, 7, 0);
        x.change(0, 8, 2);
        told(x, 60, 0, 0, 0, 3);
    }

    private static void promise20AnyOfFewerBits() {
        due.promise(20, "(-1: any)");
        LavenderParts x = Due.plain(1);
        for (int bits : new int[] {8, 16, 32}) {
            Due.layOfBits(x, 1, bits, 0, -1, 3);
            due.is("any, by " + bits + " bits", x.fits(1, 0), 1);
            due.is("the date, by " + bits + " bits", x.date(1, 0), 1);
            Due.layOfBits(x, 1, bits, 0, -2);
            due.is("not any, by " + bits + " bits", x.fits(1, 0), 0);
        }
    }

    private static void promise21TheLeast() {
        due.promise(21, "The least of them.");
        LavenderParts x = Due.plain(1);
        told(x, 60, 0, 0);
        told(x, 59, 1, 0, 0);
        x.go(1);
        x.change(0, 7, 0);
        told(x, 59, 0, 0, 0);
        x.change(0, 2, -1);
        told(x, 1, 1, 0, 3);
        // One who answers somebody begins on no date: all do, or none.
        x.singer(0, 40);
        x.change(0, 2, 1);
        told(x, 60, 0, 0, 0, 0);
        told(x, 0, Due.NONE, 0, 3);
    }

    private static void promise21None() {
        due.promise(21, "NONE.");
        LavenderParts x = Due.plain(1);
        Due.lay(x, 0, 1);
        due.is("date", x.date(0, 0), Due.NONE);
        due.promise(20, "How many DATES");
        due.is("fits", x.fits(0, 0), 0);
        due.promise(40, "How many acts answered a finding ever");
        due.is("NONE", x.status(3), 1);
        due.is("all", x.status(-1), 1);
    }

    private static void promise22Kinds() {
        due.promise(22, "KINDS that she could be of, as a set, likewise.");
        LavenderParts x = Due.plain(1);
        Due.lay(x, 0);
        due.is("nothing is told", x.kinds(0, 0), 127);
        Due.lay(x, 0, -1, -1);
        due.is("any", x.kinds(0, 0), 127);
        int[] kinds = {0, 32, 4, 1, 66, 24, 0};
        for (int left = 0; left < kinds.length; left++) {
            Due.lay(x, 0, 0, left);
            due.is("left " + left, x.kinds(0, 0), kinds[left]);
        }
        // Of part 4 a caroller lasts as a sister does; of part 5 as a singer.
        x.change(0, 5, 4);
        Due.lay(x, 0, 0, 5);
        due.is("part 4, left 5", x.kinds(0, 0), 66);
        x.change(0, 5, 5);
        due.is("part 5, left 5", x.kinds(0, 0), 65);
        due.is("her kind stays", x.of(0, 0), 0);
    }

    private static void promise22NoKind() {
        due.promise(22, "KINDS that she could be of, as a set");
        LavenderParts x = Due.plain(1);
        Due.lay(x, 0, 1);
        due.is("of no kind", x.kinds(0, 0), 0);
        due.is("no finding", x.status(-1), 0);
        x.change(0, 7, 1);
        due.is("of any kind, as it is now", x.kinds(0, 0), 127);
        Due.lay(x, 0, 1, 0, 0);
        due.is("she ended on her date", x.kinds(0, 0), 127);
    }
}
