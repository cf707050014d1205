/** Promises 20 to 22: fits, date, kinds. */
public final class ToldTest {
    private static final Due due = new Due();

    public static void main(String[] args) {
        dates();
        kinds();
        narrowSheets();
        findings();
        due.end();
    }

    private static void told(LavenderParts x, int fits, int date, int... left) {
        Due.lay(x, 1, left);
        due.is("fits", x.fits(1, 0), fits);
        due.is("date", x.date(1, 0), date);
    }

    private static void dates() {
        LavenderParts x = new LavenderParts();
        x.singer(0, 17);
        told(x, 1, 1, 0, 0, 3, 2, 1, 0);
        told(x, 1, 2, 0, -1, -1, 3);
        told(x, 1, 1, 0, -1, -1, 2);
        told(x, 58, 2, 0, 0, 0);
        told(x, 60, 0, 0);
        told(x, 60, 0, -1);
        told(x, 60, 0);
        told(x, 0, Due.NONE, 1);
        told(x, 0, Due.NONE, 0, 4);
        told(x, 0, Due.NONE, 0, -2);
        due.is("date stays", x.of(0, 1), 17);
        due.is("day stays", x.now(0), 0);
        x.go(58);
        x.change(0, 7, 0);
        told(x, 1, 0, 0, 0, 0, 3);
        told(x, 58, 0, 0, 0, 0);
        x.change(0, 6, 1);
        told(x, 60, 0, 0, 0, 0, 0);
    }

    private static void kinds() {
        LavenderParts x = new LavenderParts();
        x.singer(0, 0);
        int[][] rows = {{3, 1}, {4, 66}, {5, 24}, {2, 4}, {1, 32}, {9, 0}, {-1, 127}};
        for (int[] row : rows) {
            Due.lay(x, 0, 0, row[0]);
            due.is("kinds by " + row[0], x.kinds(0, 0), row[1]);
        }
        Due.lay(x, 0);
        due.is("kinds by nothing", x.kinds(0, 0), 127);
        Due.lay(x, 0, 1);
        due.is("kinds by what isn't now", x.kinds(0, 0), 0);
        due.is("kind stays", x.of(0, 0), 0);
        // By the gap: whom she answers ends on the first day.
        x.singer(0, 30);
        x.change(1, 7, 1);
        x.change(0, 2, 1);
        Due.lay(x, 0, 0, 0, -1, 0, -1);
        due.is("gaps above 2, or a child's one day", x.kinds(0, 0), 2 + 4 + 8 + 16 + 32);
    }

    private static void narrowSheets() {
        LavenderParts x = new LavenderParts();
        x.singer(0, 0);
        x.sheet(2, 8, 2);
        x.write(2, 1, 255);
        due.is("8 bits all set are any", x.fits(2, 0), 60);
        x.write(2, 1, 256 + 3);
        due.is("lowest 8 bits", x.date(2, 0), 0);
        x.sheet(2, 16, 2);
        x.write(2, 1, 65535);
        due.is("16 bits all set are any", x.kinds(2, 0), 127);
        x.write(2, 1, 255);
        due.is("255 of 16 bits is no any", x.kinds(2, 0), 0);
    }

    private static void findings() {
        LavenderParts x = new LavenderParts();
        for (int s : new int[] {-1, 4}) {
            due.is("fits, no sheet", x.fits(s, 0), Due.BEYOND);
            due.is("date, no sheet", x.date(s, 0), Due.BEYOND);
            due.is("kinds, no sheet", x.kinds(s, 0), Due.BEYOND);
        }
        due.is("fits, missing", x.fits(3, 0), Due.MISSING);
        due.is("date, missing", x.date(3, 0), Due.MISSING);
        due.is("kinds, missing", x.kinds(3, 0), Due.MISSING);
        x.sheet(3, 8, 0);
        for (int singer : new int[] {-1, 0}) {
            due.is("fits, nobody", x.fits(3, singer), Due.BEYOND);
            due.is("date, nobody", x.date(3, singer), Due.BEYOND);
            due.is("kinds, nobody", x.kinds(3, singer), Due.BEYOND);
        }
    }
}
