/** Promises 23 to 25: every boundary that the document's words name for springs. */
public final class SpringsEdgesTest {
    private static final Due due = new Due();

    public static void main(String[] args) {
        promise23HowManyTimes();
        promise23PartsAndPlaces();
        promise23WhoIsNotThere();
        promise23TheDead();
        promise23AsByStrike();
        promise23TheLastDay();
        promise24HowManyAndWhat();
        promise24NoDateAndNoDay();
        promise24WhoBegins();
        promise24LowestTerms();
        promise25AnyNumber();
        promise25DrawsRunOver();
        due.end();
    }

    private static void promise23HowManyTimes() {
        due.promise(23, "n times (1 to 20) two draws");
        LavenderParts x = new LavenderParts();
        for (int n : new int[] {Due.LEAST, -1, 0, 21, Due.MOST}) {
            due.is("n " + n, x.spring(n), Due.BEYOND);
        }
        due.is("no draw", x.count(6), 1);
        due.is("no day", x.now(0), 0);
        due.is("n 1", x.spring(1), 0);
        due.is("a day", x.now(0), 1);
        due.is("two draws", x.count(6), after(1, 2));
        due.is("n 20", x.spring(20), 0);
        due.is("twenty days more", x.now(0), 21);
        due.is("forty draws more", x.count(6), after(1, 42));
        due.is("still", x.now(3), 21);
    }

    /** What so many draws make of z. */
    private static int after(int z, int draws) {
        long next = z;
        for (int i = 0; i < draws; i++) {
            next = (int) (next * 1103515245L + 12345L);
        }
        return (int) next;
    }

    /** Seeds found beforehand; z is below 0 behind either draw of each. */
    private static void promise23PartsAndPlaces() {
        due.promise(23, "the SINGER of the first one's rest by 8");
        int[][] rows = { // seed, who, part
            {213, 0, 1}, {396, 0, 9}, {112, 7, 1}, {346, 7, 9}, {50, 1, 5},
        };
        for (int[] row : rows) {
            LavenderParts x = Due.plain(8);
            for (int who = 0; who < 8; who++) {
                x.change(who, 1, 59);
            }
            x.seed(row[0]);
            // Her part of 1 ends on the very day that goes by then.
            due.is("seed " + row[0], x.spring(1), row[2] == 1 ? 0 : 1 << row[1]);
            due.promise(23, "PART of her is 1 and the second one's rest by 9 together ahead of that");
            due.is("part by seed " + row[0], x.of(row[1], 5), row[2]);
            due.is("left by seed " + row[0], x.of(row[1], 7), row[2] - 1);
            due.is("sold by seed " + row[0], x.now(4), row[2] == 1 ? 0 : 6);
            due.is("part of the others", x.of((row[1] + 1) % 8, 5), 3);
        }
    }

    private static void promise23WhoIsNotThere() {
        due.promise(23, "if there is one and she isn't DEAD");
        LavenderParts x = Due.plain(7);
        for (int who = 0; who < 7; who++) {
            x.change(who, 1, 59);
        }
        x.seed(346);
        due.is("the eighth isn't there", x.spring(1), 0);
        for (int who = 0; who < 7; who++) {
            due.is("part of " + who, x.of(who, 5), 3);
        }
        due.is("draws all the same", x.count(6), -476002200);
        due.is("a day all the same", x.now(0), 1);
    }

    private static void promise23TheDead() {
        due.promise(23, "if there is one and she isn't DEAD");
        LavenderParts x = Due.plain(1);
        x.change(0, 6, 1);
        x.change(0, 7, 4);
        x.change(0, 8, 5);
        x.seed(396);
        due.is("the dead", x.spring(1), 0);
        due.is("her part", x.of(0, 5), 3);
        due.is("her left", x.of(0, 7), 4);
        due.is("her waits", x.of(0, 8), 5);
        due.is("draws all the same", x.count(6), -412946198);
        due.is("no finding", x.status(-1), 0);
    }

    private static void promise23AsByStrike() {
        due.promise(23, "begins (as by strike())");
        LavenderParts x = Due.plain(1);
        x.change(0, 0, 4);
        x.change(0, 4, 120);
        x.change(0, 7, 99);
        x.change(0, 8, 99);
        x.seed(396);
        due.is("one who sings begins anew", x.spring(1), 1);
        due.is("left behind a day", x.of(0, 7), 15);
        due.is("waits", x.of(0, 8), 0);
        due.is("sold", x.of(0, 9), 16);
        due.is("her part stays", x.of(0, 5), 9);
    }

    /** Far more calls than are promised, but no other way leads to the last day. */
    private static void promise23TheLastDay() {
        due.promise(23, "BEYOND. STATE: DAY would be above 99999.");
        LavenderParts x = new LavenderParts();
        for (int i = 0; i < 1666; i++) {
            x.go(60);
        }
        x.go(20);
        due.is("to day 100000", x.spring(20), Due.STATE);
        due.is("no draw", x.count(6), 1);
        due.is("day stays", x.now(0), 99980);
        due.is("to day 99999", x.spring(19), 0);
        due.is("day", x.now(0), 99999);
        due.is("one more", x.spring(1), Due.STATE);
        due.is("n 0 on the last day", x.spring(0), Due.BEYOND);
        due.is("n 21 on the last day", x.spring(21), Due.BEYOND);
    }

    private static void odds(LavenderParts x, int n, long above, long below) {
        due.is("above, n " + n, x.odds(n, 0), above);
        due.is("below, n " + n, x.odds(n, 1), below);
    }

    private static void promise24HowManyAndWhat() {
        due.promise(24, "above (what 0), below the line (1). BEYOND.");
        LavenderParts x = Due.plain(1);
        for (int what : new int[] {Due.LEAST, -1, 2, Due.MOST}) {
            due.is("what " + what, x.odds(1, what), -1000001L);
        }
        due.promise(24, "on n (0 to 10) DATES");
        for (int n : new int[] {Due.LEAST, -1, 11, Due.MOST}) {
            due.is("n " + n, x.odds(n, 0), -1000001L);
            due.is("n " + n, x.odds(n, 1), -1000001L);
        }
        odds(x, 0, 1, 1);
        odds(x, 1, 1, 60);
        odds(x, 6, 1, 46656000000L);
        odds(x, 10, 1, 604661760000000000L);
        due.is("no draw is made", x.count(6), 1);
    }

    private static void promise24NoDateAndNoDay() {
        due.promise(24, "a fraction in lowest terms");
        LavenderParts x = new LavenderParts();
        odds(x, 0, 1, 1);
        odds(x, 1, 0, 1);
        odds(x, 10, 0, 1);
        x.singer(0, 0);
        x.change(0, 6, 1);
        odds(x, 0, 1, 1);
        odds(x, 2, 0, 1);
    }

    private static void promise24WhoBegins() {
        due.promise(24, "it is always one on which somebody who isn't DEAD and ANSWERS nobody BEGINS");
        LavenderParts x = Due.plain(2);
        odds(x, 1, 1, 60);
        x.change(1, 1, 59);
        odds(x, 1, 1, 30);
        x.change(1, 2, 0);
        odds(x, 1, 1, 60);
        x.change(0, 6, 1);
        odds(x, 1, 0, 1);
        x.change(1, 2, -1);
        odds(x, 1, 1, 60);
        x.change(0, 6, 0);
        x.change(0, 7, 5);
        x.change(0, 8, 5);
        odds(x, 1, 1, 30);
        // One alive beside one dead of the same date.
        x.change(1, 1, 0);
        x.change(0, 6, 1);
        odds(x, 1, 1, 60);
    }

    private static void promise24LowestTerms() {
        due.promise(24, "a fraction in lowest terms");
        LavenderParts x = new LavenderParts();
        int[][] rows = {{1, 60}, {1, 30}, {1, 20}, {1, 15}, {1, 12}, {1, 10}, {7, 60}, {2, 15}};
        for (int i = 0; i < 8; i++) {
            x.singer(0, 52 + i);
            odds(x, 1, rows[i][0], rows[i][1]);
            odds(x, 2, rows[i][0] * rows[i][0], rows[i][1] * rows[i][1]);
        }
        odds(x, 10, 1024, 576650390625L);
        x.change(7, 6, 1);
        odds(x, 10, 282475249, 604661760000000000L);
    }

    private static void promise25AnyNumber() {
        due.promise(25, "z becomes v: what it was.");
        LavenderParts x = new LavenderParts();
        due.is("to the least", x.seed(Due.LEAST), 1);
        due.is("to the most", x.seed(Due.MOST), Due.LEAST);
        due.is("to 0", x.seed(0), Due.MOST);
        due.is("to 0 again", x.seed(0), 0);
        due.is("to what looks like a finding", x.seed(Due.SIZE), 0);
        due.is("from what looks like a finding", x.seed(1), Due.SIZE);
        due.is("no finding", x.status(-1), 0);
    }

    private static void promise25DrawsRunOver() {
        due.promise(25, "each makes it z * 1103515245 + 12345 (an int), and gives z >>> 8");
        int[][] rows = { // z, z behind two draws
            {0, -740551042}, {-1, 288979989}, {Due.MOST, -1858503659}, {Due.LEAST, 1406932606},
        };
        for (int[] row : rows) {
            LavenderParts x = new LavenderParts();
            x.seed(row[0]);
            x.spring(1);
            due.is("z from " + row[0], x.count(6), row[1]);
        }
    }
}
