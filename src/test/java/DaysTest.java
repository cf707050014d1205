/** Promises 7 to 13: go, now, ahead, sings, together, rest, when. */
public final class DaysTest {
    private static final Due due = new Due();

    public static void main(String[] args) {
        aDayGoesBy();
        theDeadAreSilent();
        whoEndedDoesNotBegin();
        whoSingsKeepsWaiting();
        aYearEnds();
        theMost();
        go();
        now();
        ahead();
        sings();
        theFarthest();
        together();
        rest();
        when();
        due.end();
    }

    /** A singer from date 0 on, and a sister who answers her. */
    private static LavenderParts two() {
        LavenderParts x = new LavenderParts();
        x.singer(0, 0);
        x.singer(1, 5);
        x.change(1, 2, 0);
        return x;
    }

    private static void aDayGoesBy() {
        LavenderParts x = two();
        int[] sing = {1, 1, 1, 0, 0, 0, 0, 2, 2, 2, 2, 0, 0};
        int[] left = {3, 2, 1, 0, 0, 0, 0, 0, 0, 0, 0, 0, 0};
        int[] waits = {0, 0, 0, 4, 3, 2, 1, 0, 0, 0, 0, 0, 0};
        int[] sisterLeft = {0, 0, 0, 0, 0, 0, 0, 4, 3, 2, 1, 0, 0};
        int[] still = {0, 0, 0, 1, 2, 3, 4, 0, 0, 0, 0, 1, 2};
        int[] sold = {6, 12, 18, 18, 18, 18, 18, 25, 32, 39, 46, 46, 46};
        for (int i = 0; i < sing.length; i++) {
            due.is("day " + i, x.go(1), sing[i]);
            due.is("left " + i, x.of(0, 7), left[i]);
            due.is("waits " + i, x.of(1, 8), waits[i]);
            due.is("who waits " + i, x.now(2), waits[i] > 0 ? 2 : 0);
            due.is("left of the sister " + i, x.of(1, 7), sisterLeft[i]);
            due.is("still " + i, x.now(3), still[i]);
            due.is("sold " + i, x.now(4), sold[i]);
        }
    }

    private static void theDeadAreSilent() {
        LavenderParts x = two();
        x.change(0, 7, 5);
        x.change(0, 6, 1);
        x.change(1, 8, 1);
        due.is("the dead don't sing", x.now(1), 0);
        due.is("she comes in", x.go(1), 2);
        due.is("left of the dead stays", x.of(0, 7), 5);
        due.is("a sister sells for herself", x.of(1, 9), 6);
        x.change(1, 6, 1);
        x.change(1, 8, 4);
        due.is("nobody sings", x.go(60), 0);
        due.is("nobody alive waits", x.now(2), 0);
        due.is("waits of the dead stays", x.of(1, 8), 4);
        due.is("age of the dead stays", x.of(1, 4), 30);
        due.is("voice of the dead stays", x.of(1, 3), 60);
    }

    private static void whoEndedDoesNotBegin() {
        LavenderParts x = new LavenderParts();
        x.singer(0, 0);
        x.change(0, 7, 1);
        due.is("she ends on her date", x.go(1), 0);
        due.is("and rests that year", x.sings(0), 60);
        // Two who answer one another: the one who ended can't hear the other on the same day.
        LavenderParts y = two();
        y.change(0, 2, 1);
        y.change(0, 7, 1);
        y.change(1, 7, 1);
        y.go(1);
        due.is("nobody waits", y.now(2), 0);
    }

    private static void whoSingsKeepsWaiting() {
        LavenderParts x = two();
        x.change(1, 7, 2);
        x.change(1, 8, 3);
        x.go(2);
        due.is("waits stays while she sings", x.of(1, 8), 3);
        x.go(1);
        due.is("and goes on behind that", x.of(1, 8), 2);
        // One who waits doesn't begin on her date, and hears nobody.
        LavenderParts y = new LavenderParts();
        y.singer(0, 0);
        y.change(0, 8, 2);
        due.is("she waits on her date", y.go(1), 0);
        due.is("then comes in", y.go(1), 1);
        // One who answers doesn't begin on her date.
        LavenderParts z = two();
        z.change(0, 1, 30);
        due.is("the answerer's date passes", z.go(10), 0);
    }

    private static void aYearEnds() {
        LavenderParts x = new LavenderParts();
        for (int kind = 0; kind < 7; kind++) {
            x.singer(kind, 0);
        }
        x.change(5, 4, 14);
        x.change(5, 3, 97);
        x.change(3, 3, 3);
        x.change(4, 4, 120);
        x.go(59);
        due.is("age ahead of the year's end", x.of(0, 4), 30);
        x.go(1);
        int[] voice = {58, 58, 60, 0, 57, 99, 59};
        int[] age = {31, 31, 31, 31, 120, 15, 31};
        for (int i = 0; i < 7; i++) {
            due.is("voice behind a year " + i, x.of(i, 3), voice[i]);
            due.is("age behind a year " + i, x.of(i, 4), age[i]);
        }
        x.change(5, 3, 90);
        x.go(60);
        due.is("a child of 15 gains nothing", x.of(5, 3), 90);
        due.is("she is 16", x.of(5, 4), 16);
        due.is("date", x.now(7), 0);
        due.is("day", x.now(0), 120);
    }

    private static void theMost() {
        LavenderParts x = new LavenderParts();
        x.singer(0, 0);
        x.change(0, 9, 9990);
        x.go(1);
        due.is("sold", x.of(0, 9), 9996);
        x.go(1);
        due.is("most sold", x.of(0, 9), 9999);
    }

    private static void go() {
        LavenderParts x = two();
        due.is("go 0", x.go(0), Due.BEYOND);
        due.is("go 61", x.go(61), Due.BEYOND);
        due.is("go -1", x.go(-1), Due.BEYOND);
        due.is("nothing went by", x.now(0), 0);
        due.is("go 8", x.go(8), 2);
        due.is("day 8", x.now(0), 8);
        // Far more calls than are promised, but no other way leads to the last day.
        LavenderParts y = new LavenderParts();
        for (int i = 0; i < 1666; i++) {
            y.go(60);
        }
        due.is("go past the last day", y.go(40), Due.STATE);
        due.is("spring past the last day", y.spring(20) == 0 && y.spring(19) == 0 ? 0 : 1, 0);
        due.is("last day", y.now(0), 99999);
        due.is("still", y.now(3), 99999);
        due.is("spring past the last day", y.spring(1), Due.STATE);
        due.is("go past the last day", y.go(1), Due.STATE);
        due.is("still has a most", y.longest(200), 99999);
    }

    private static void now() {
        LavenderParts x = two();
        x.singer(2, 59);
        x.change(2, 6, 1);
        x.change(2, 7, 3);
        x.change(2, 8, 3);
        x.change(2, 9, 100);
        x.change(2, 3, 9);
        x.change(1, 8, 2);
        x.change(0, 7, 2);
        int[] first = {0, 1, 2, 0, 100, 4, 129, 0};
        for (int what = 0; what < 8; what++) {
            due.is("now " + what, x.now(what), first[what]);
        }
        x.go(60);
        x.go(1);
        due.is("date", x.now(7), 1);
        due.is("day", x.now(0), 61);
        due.is("now -1", x.now(-1), Due.BEYOND);
        due.is("now 8", x.now(8), Due.BEYOND);
    }

    private static void ahead() {
        LavenderParts x = two();
        due.is("voice ahead", x.ahead(0, 3, 60), 58);
        due.is("voice a day less ahead", x.ahead(0, 3, 59), 60);
        due.is("age ahead", x.ahead(0, 4, 200), 33);
        due.is("left ahead", x.ahead(1, 7, 8), 4);
        due.is("waits ahead", x.ahead(1, 8, 4), 4);
        due.is("sold ahead", x.ahead(1, 9, 11), 28);
        due.is("gap ahead", x.ahead(1, 10, 200), 4);
        x.change(1, 4, 39);
        due.is("gap of an older one ahead", x.ahead(1, 10, 60), 5);
        due.is("nothing ahead", x.ahead(0, 7, 0), 0);
        for (int what : new int[] {-1, 0, 1, 2, 5, 6, 11, 12, 13}) {
            due.is("ahead what " + what, x.ahead(0, what, 1), Due.BEYOND);
        }
        due.is("ahead -1 days", x.ahead(0, 3, -1), Due.BEYOND);
        due.is("ahead 201 days", x.ahead(0, 3, 201), Due.BEYOND);
        due.is("ahead of nobody", x.ahead(2, 3, 1), Due.BEYOND);
        due.is("no day went by", x.now(0), 0);
        due.is("nobody sings", x.now(1), 0);
    }

    private static void sings() {
        LavenderParts x = two();
        due.is("singer sings", x.sings(0), 1);
        due.is("sister sings", x.sings(1), 8);
        x.go(1);
        due.is("singer sings now", x.sings(0), 0);
        x.change(0, 6, 1);
        due.is("the dead never sings", x.sings(0), Due.NONE);
        due.is("nobody", x.sings(2), Due.BEYOND);
        due.is("nobody -1", x.sings(-1), Due.BEYOND);
        LavenderParts y = new LavenderParts();
        y.singer(0, 0);
        y.change(0, 8, 99);
        due.is("behind a long wait", y.sings(0), 99);
    }

    /** Eight in a chain, 43 days from one's beginning to the next one's. */
    private static void theFarthest() {
        LavenderParts x = new LavenderParts();
        for (int i = 0; i < 8; i++) {
            x.singer(4, 0);
            x.change(i, 2, i - 1);
            x.change(i, 4, 120);
            x.change(i, 5, 5);
        }
        x.change(0, 8, 99);
        due.is("who waits", x.now(2), 1);
        due.is("sings behind 400 days", x.sings(7), 400);
        due.is("sold something behind 400 days", x.when(7, 1), 400);
        x.change(6, 5, 6);
        due.is("sings behind 401 days", x.sings(7), Due.NONE);
        due.is("sold something behind 401 days", x.when(7, 1), Due.NONE);
    }

    private static void together() {
        LavenderParts x = two();
        due.is("never at once", x.together(0, 1), Due.NONE);
        x.singer(2, 8);
        due.is("sister and cabman", x.together(1, 2), 9);
        due.is("cabman and sister", x.together(2, 1), 9);
        x.change(0, 7, 9);
        x.change(1, 7, 9);
        due.is("at once now", x.together(0, 1), 0);
        due.is("one and the same", x.together(1, 1), Due.BEYOND);
        due.is("nobody", x.together(0, 3), Due.BEYOND);
        due.is("nobody ahead", x.together(-1, 0), Due.BEYOND);
    }

    private static void rest() {
        LavenderParts x = two();
        due.is("rest 0", x.rest(0), 0);
        due.is("rest 4", x.rest(4), 7);
        due.is("rest 5", x.rest(5), 16);
        due.is("rest 49", x.rest(49), 60);
        due.is("rest 50", x.rest(50), Due.NONE);
        due.is("rest -1", x.rest(-1), Due.BEYOND);
        due.is("rest 100000", x.rest(100000), Due.BEYOND);
        due.is("rest 99999", x.rest(99999), Due.NONE);
        LavenderParts y = new LavenderParts();
        due.is("the farthest", y.rest(400), 400);
        due.is("one too far", y.rest(401), Due.NONE);
    }

    private static void when() {
        LavenderParts x = two();
        due.is("when 0", x.when(0, 0), 0);
        due.is("when 1", x.when(0, 1), 1);
        due.is("when 18", x.when(0, 18), 3);
        due.is("when 19", x.when(0, 19), 61);
        due.is("sister's 28", x.when(1, 28), 11);
        due.is("when 9999", x.when(1, 9999), Due.NONE);
        due.is("when 10000", x.when(1, 10000), Due.BEYOND);
        due.is("when -1", x.when(1, -1), Due.BEYOND);
        due.is("of nobody", x.when(2, 0), Due.BEYOND);
    }
}
