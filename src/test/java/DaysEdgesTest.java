/** Promises 7 to 13: every boundary that the document's words name for days and what will be. */
public final class DaysEdgesTest {
    private static final Due due = new Due();

    public static void main(String[] args) {
        promise7HowManyDays();
        promise7TheLastDay();
        promise7LeftEnds();
        promise7WhoHasEnded();
        promise7WaitsEnds();
        promise7WhomSheAnswersEnded();
        promise7TheDateOfBeginning();
        promise7TheDead();
        promise7SoldHasAMost();
        promise7Still();
        promise7AgeAndVoiceAtTheYearsEnd();
        promise7AsEachWasAheadOfThat();
        promise8What();
        promise8TheGreatest();
        promise8TheYearTurns();
        promise9Ahead();
        promise9NothingChanges();
        promise10Sings();
        promise11Together();
        promise12Rest();
        promise13When();
        due.end();
    }

    private static void promise7HowManyDays() {
        due.promise(7, "n DAYS (1 to 60): who sings then, as a set. BEYOND.");
        LavenderParts x = Due.plain(1);
        for (int n : new int[] {Due.LEAST, -1, 0, 61, Due.MOST}) {
            due.is("go " + n, x.go(n), Due.BEYOND);
        }
        due.is("no day went by", x.now(0), 0);
        due.is("one day", x.go(1), 1);
        due.is("day 1", x.now(0), 1);
        due.is("sixty days", x.go(60), 1);
        due.is("day 61", x.now(0), 61);
        due.is("nobody is there", new LavenderParts().go(60), 0);
    }

    /** Far more calls than are promised, but no other way leads to the last day. */
    private static void promise7TheLastDay() {
        due.promise(7, "STATE: DAY would be above 99999.");
        LavenderParts x = new LavenderParts();
        for (int i = 0; i < 1666; i++) {
            x.go(60);
        }
        due.is("day", x.now(0), 99960);
        due.is("to day 100000", x.go(40), Due.STATE);
        due.is("far past it", x.go(60), Due.STATE);
        due.is("day stays", x.now(0), 99960);
        due.is("still stays", x.now(3), 99960);
        due.is("to day 99999", x.go(39), 0);
        due.is("day", x.now(0), 99999);
        due.is("one more", x.go(1), Due.STATE);
        due.promise(7, "BEYOND. STATE: DAY would be above 99999.");
        due.is("go 0 on the last day", x.go(0), Due.BEYOND);
        due.is("go 61 on the last day", x.go(61), Due.BEYOND);
        due.promise(7, "DAY is one more (99999 at most).");
        x.singer(0, 39);
        due.is("the date stays that of day 99999", x.ahead(0, 9, 5), 6 + 6 + 6 + 0 + 6);
        due.promise(7, "else 1 more (99999 at most)");
        x.change(0, 6, 1);
        due.is("still has a most", x.longest(200), 99999);
    }

    private static void promise7LeftEnds() {
        due.promise(7, "LEFT is 1 less; one of whom it is 0 then has ENDED on this DAY.");
        LavenderParts x = Due.plain(2);
        x.change(0, 1, 30);
        x.change(1, 2, 0);
        x.change(0, 7, 2);
        due.is("left 2", x.go(1), 1);
        due.is("left 1 now", x.of(0, 7), 1);
        due.is("she hasn't ended", x.of(1, 8), 0);
        due.is("left 1", x.go(1), 0);
        due.is("left 0 now", x.of(0, 7), 0);
        due.is("she has ended", x.of(1, 8), 1);
        due.is("on that day alone", x.go(1), 2);
        LavenderParts y = Due.plain(1);
        y.change(0, 7, 99);
        y.go(1);
        due.is("left 99", y.of(0, 7), 98);
    }

    private static void promise7WhoHasEnded() {
        due.promise(7, "don't sing (and haven't ENDED on this DAY)");
        LavenderParts x = Due.plain(1);
        x.change(0, 7, 1);
        due.is("she ends on her date and doesn't begin", x.go(1), 0);
        LavenderParts y = Due.plain(1);
        y.change(0, 7, 1);
        y.change(0, 8, 1);
        due.is("she ends and doesn't come in", y.go(1), 0);
        due.is("she waits as before", y.of(0, 8), 1);
        due.is("a day later she comes in", y.go(1), 1);
        LavenderParts z = Due.plain(2);
        z.change(0, 2, 1);
        z.change(1, 2, 0);
        z.change(0, 7, 1);
        z.change(1, 7, 1);
        z.go(1);
        due.is("two who end at once don't hear one another", z.now(2), 0);
        due.promise(7, "LEFT is 1 less");
        LavenderParts w = Due.plain(1);
        w.change(0, 7, 2);
        w.change(0, 8, 5);
        w.go(1);
        due.is("one who sings doesn't wait less", w.of(0, 8), 5);
        due.is("nor begins on her date", w.of(0, 7), 1);
    }

    private static void promise7WaitsEnds() {
        due.promise(7, "if she WAITS, WAITS is 1 less, and if it is 0 then she begins");
        LavenderParts x = Due.plain(2);
        x.change(0, 1, 30);
        x.change(1, 1, 30);
        x.change(0, 8, 1);
        x.change(1, 8, 2);
        due.is("waits 1 comes in", x.go(1), 1);
        due.is("her left is all that she lasts", x.of(0, 7), 3);
        due.is("she sells on that day", x.of(0, 9), 6);
        due.is("waits 2 waits", x.of(1, 8), 1);
        due.is("waits 2 comes in", x.go(1), 3);
        x.change(1, 7, 0);
        x.change(1, 8, 99);
        x.go(1);
        due.is("waits 99", x.of(1, 8), 98);
        // Waiting goes ahead of her date and of whom she answers.
        LavenderParts y = Due.plain(3);
        y.change(0, 8, 2);
        y.change(1, 2, 2);
        y.change(1, 8, 9);
        y.change(2, 7, 1);
        due.is("nobody begins", y.go(1), 0);
        due.is("who waits on her date", y.of(0, 8), 1);
        due.is("who waits hears nobody", y.of(1, 8), 8);
    }

    private static void promise7WhomSheAnswersEnded() {
        due.promise(7, "else if she ANSWERS somebody who has ENDED on this DAY, she WAITS as many DAYS as her GAP (99 at most)");
        // The one whom all answer has the highest number: steps go by numbers, but step 1 is first.
        LavenderParts x = Due.oneOfEach();
        x.singer(0, 59);
        int[] gaps = {1, 13, 3, 26, 31, 1, 3};
        for (int who = 0; who < 7; who++) {
            x.change(who, 2, 7);
            x.change(who, 4, 120);
            x.change(who, 3, 49);
        }
        x.change(7, 7, 1);
        due.is("nobody sings", x.go(1), 0);
        for (int who = 0; who < 7; who++) {
            due.is("waits of kind " + who, x.of(who, 8), gaps[who]);
        }
        due.is("a gap of 1 ends on the next day", x.go(1), 1 + 32);
        due.promise(7, "else if she ANSWERS nobody");
        LavenderParts y = Due.plain(2);
        y.change(1, 1, 40);
        y.change(0, 2, 1);
        due.is("one who answers doesn't begin on her date", y.go(1), 0);
        y.change(1, 6, 1);
        due.is("nor if that one is dead", y.go(60), 0);
    }

    private static void promise7TheDateOfBeginning() {
        due.promise(7, "DATE is that on which she BEGINS, she begins");
        LavenderParts x = Due.plain(2);
        x.change(0, 1, 59);
        x.change(1, 1, 1);
        due.is("date 0: nobody", x.go(1), 0);
        due.is("date 1", x.go(1), 2);
        due.is("date 58", x.go(57), 0);
        due.is("date 59", x.go(1), 1);
        due.promise(7, "A YEAR has 60 DAYS: DATE is what DAY leaves by 60.");
        due.is("date 0 of the next year", x.go(1), 1);
        due.is("date 1 of the next year", x.go(1), 3);
        due.promise(7, "She who begins sings: LEFT is what she LASTS (99 at most).");
        LavenderParts y = Due.plain(1);
        y.change(0, 0, 4);
        y.change(0, 4, 120);
        y.change(0, 5, 9);
        due.is("she begins", y.go(1), 1);
        due.is("the longest", y.of(0, 7), 16);
    }

    private static void promise7TheDead() {
        due.promise(7, "SINGERS by numbers that aren't DEAD and sing");
        LavenderParts x = Due.plain(4);
        x.change(0, 7, 1);
        x.change(1, 8, 1);
        x.change(3, 2, 0);
        x.change(3, 1, 5);
        for (int who = 0; who < 3; who++) {
            x.change(who, 6, 1);
        }
        due.is("the dead don't sing", x.go(1), 0);
        due.is("left of the dead", x.of(0, 7), 1);
        due.is("the dead don't end", x.of(3, 8), 0);
        due.is("waits of the dead", x.of(1, 8), 1);
        due.is("the dead don't begin", x.of(2, 7), 0);
        due.promise(7, "All that sing (LEFT above 0, not DEAD)");
        due.is("sold of the dead", x.now(4), 0);
        due.is("still", x.now(3), 1);
        due.promise(7, "of all that aren't DEAD AGE is 1 more");
        x.go(59);
        due.is("age of the dead", x.of(0, 4), 30);
        due.is("voice of the dead", x.of(0, 3), 60);
        due.is("age of one alive", x.of(3, 4), 31);
        due.is("voice of one alive", x.of(3, 3), 58);
    }

    private static void promise7SoldHasAMost() {
        due.promise(7, "SOLD is what each SELLS more (9999 at most)");
        int[][] rows = {{0, 6}, {9992, 9998}, {9993, 9999}, {9994, 9999}, {9998, 9999}, {9999, 9999}};
        for (int[] row : rows) {
            LavenderParts x = Due.plain(2);
            x.change(0, 9, row[0]);
            x.go(1);
            due.is("sold from " + row[0], x.of(0, 9), row[1]);
            due.is("sold of another one", x.of(1, 9), 6);
        }
        due.promise(7, "LAST: 16, if nobody else sings, else as an ELDER.");
        LavenderParts y = Due.plain(2);
        y.change(0, 0, 4);
        y.change(1, 1, 30);
        y.change(1, 7, 2);
        y.go(1);
        due.is("beside one who sings on", y.of(0, 9), 6);
        y.go(1);
        due.is("beside one who has ended", y.of(0, 9), 6 + 16);
    }

    private static void promise7Still() {
        due.promise(7, "STILL is 0, if somebody sings, else 1 more");
        LavenderParts x = Due.plain(1);
        x.change(0, 1, 2);
        int[] still = {1, 2, 0, 0, 0, 1, 2};
        for (int i = 0; i < still.length; i++) {
            x.go(1);
            due.is("still on day " + i, x.now(3), still[i]);
        }
        x.change(0, 7, 5);
        due.is("still as it was till a day goes by", x.now(3), 2);
        x.change(0, 6, 1);
        x.go(1);
        due.is("the dead leave it still", x.now(3), 3);
    }

    private static void promise7AgeAndVoiceAtTheYearsEnd() {
        int[][] rows = { // kind, voice, age, voice then, age then
            {0, 60, 30, 58, 31}, {0, 3, 0, 1, 1}, {0, 2, 119, 0, 120}, {0, 1, 120, 0, 120}, {0, 0, 30, 0, 31},
            {1, 2, 30, 0, 31}, {1, 1, 30, 0, 31}, {2, 99, 30, 99, 31}, {2, 0, 120, 0, 120},
            {3, 5, 30, 1, 31}, {3, 4, 30, 0, 31}, {3, 3, 30, 0, 31}, {4, 4, 30, 1, 31}, {4, 3, 30, 0, 31},
            {4, 2, 30, 0, 31}, {6, 2, 30, 1, 31}, {6, 1, 30, 0, 31}, {6, 0, 30, 0, 31},
            {5, 93, 3, 98, 4}, {5, 94, 3, 99, 4}, {5, 95, 3, 99, 4}, {5, 99, 3, 99, 4}, {5, 0, 0, 5, 1},
            {5, 60, 13, 65, 14}, {5, 60, 14, 65, 15}, {5, 60, 15, 60, 16}, {5, 60, 120, 60, 120},
        };
        for (int[] row : rows) {
            LavenderParts x = Due.plain(1);
            x.change(0, 0, row[0]);
            x.change(0, 3, row[1]);
            x.change(0, 4, row[2]);
            String who = "kind " + row[0] + ", voice " + row[1] + ", age " + row[2];
            due.promise(7, "If DATE is 59");
            x.go(59);
            due.is("voice on date 59, " + who, x.of(0, 3), row[1]);
            due.is("age on date 59, " + who, x.of(0, 4), row[2]);
            x.go(1);
            due.promise(7, "VOICE what each WEARS less (0 at least");
            due.is("voice behind it, " + who, x.of(0, 3), row[3]);
            due.promise(7, "AGE is 1 more (120 at most)");
            due.is("age behind it, " + who, x.of(0, 4), row[4]);
        }
        due.promise(7, "CHILD: -5 (VOICE is 5 more, 99 at most), but 0 from AGE 15 on.");
        LavenderParts y = Due.plain(1);
        y.change(0, 0, 5);
        y.change(0, 4, 13);
        due.is("13, 14, 15: twice more", y.ahead(0, 3, 180), 70);
    }

    private static void promise7AsEachWasAheadOfThat() {
        due.promise(7, "all as each was ahead of (4)");
        LavenderParts x = Due.plain(2);
        x.change(0, 1, 59);
        x.change(1, 0, 5);
        x.change(1, 4, 14);
        x.go(59);
        x.go(1);
        due.is("sold on date 59 by the voice ahead of it", x.of(0, 9), 6);
        due.is("a child of 14 gains, though she is 15 then", x.of(1, 3), 65);
        x.go(1);
        due.is("sold on date 0 by the voice behind it", x.of(0, 9), 11);
    }

    private static void promise8What() {
        due.promise(8, "BEYOND.");
        LavenderParts x = Due.plain(1);
        for (int what : new int[] {Due.LEAST, -1, 8, Due.MOST}) {
            due.is("now " + what, x.now(what), Due.BEYOND);
        }
    }

    private static void promise8TheGreatest() {
        LavenderParts x = Due.plain(8);
        for (int who = 0; who < 8; who++) {
            x.change(who, 3, 99);
            x.change(who, 7, 1);
            x.change(who, 8, 1);
            x.change(who, 9, 9999);
        }
        due.promise(8, "1 who sings (LEFT above 0, not DEAD), as a set");
        due.is("all sing", x.now(1), 255);
        due.promise(8, "2 who WAITS (and isn't DEAD), as a set");
        due.is("all wait", x.now(2), 255);
        due.promise(8, "4 SOLD of all together");
        due.is("sold", x.now(4), 79992);
        due.promise(8, "6 VOICES of all together");
        due.is("voices", x.now(6), 792);
        due.promise(8, "5 who is DEAD, as a set");
        due.is("nobody is dead", x.now(5), 0);
        x.change(7, 6, 1);
        x.change(0, 7, 0);
        x.change(1, 8, 0);
        due.is("the eighth is dead", x.now(5), 128);
        due.is("who sings, but the dead and who has none left", x.now(1), 126);
        due.is("who waits, but the dead and who waits 0", x.now(2), 125);
        due.is("sold with the dead one's", x.now(4), 79992);
        due.is("voices with the dead one's", x.now(6), 792);
    }

    private static void promise8TheYearTurns() {
        due.promise(8, "7 DATE");
        LavenderParts x = new LavenderParts();
        x.go(59);
        due.is("date on day 59", x.now(7), 59);
        x.go(1);
        due.is("date on day 60", x.now(7), 0);
        due.is("day 60", x.now(0), 60);
        due.is("still over the year's end", x.now(3), 60);
        x.go(60);
        x.go(1);
        due.is("date on day 121", x.now(7), 1);
    }

    private static void promise9Ahead() {
        due.promise(9, "What 3, 4, 7, 8, 9, 10 (as in of()) of a SINGER");
        LavenderParts x = Due.plain(1);
        for (int what = -1; what <= 14; what++) {
            boolean isTold = what == 3 || what == 4 || what >= 7 && what <= 10;
            due.is("what " + what, x.ahead(0, what, 0), isTold ? x.of(0, what) : Due.BEYOND);
        }
        due.is("what least", x.ahead(0, Due.LEAST, 0), Due.BEYOND);
        due.is("what most", x.ahead(0, Due.MOST, 0), Due.BEYOND);
        due.promise(9, "behind n (0 to 200) DAYS. BEYOND.");
        for (int n : new int[] {Due.LEAST, -1, 201, Due.MOST}) {
            due.is("n " + n, x.ahead(0, 3, n), Due.BEYOND);
        }
        for (int who : new int[] {Due.LEAST, -1, 1, 8, Due.MOST}) {
            due.is("singer " + who, x.ahead(who, 3, 1), Due.BEYOND);
        }
        due.is("behind no day", x.ahead(0, 7, 0), 0);
        due.is("behind one", x.ahead(0, 7, 1), 3);
        due.is("age behind 179", x.ahead(0, 4, 179), 32);
        due.is("age behind 180", x.ahead(0, 4, 180), 33);
        due.is("age behind 200", x.ahead(0, 4, 200), 33);
        x.go(39);
        due.is("age behind 200 from date 39", x.ahead(0, 4, 200), 33);
        x.go(1);
        due.is("age behind 200 from date 40", x.ahead(0, 4, 200), 34);
    }

    private static void promise9NothingChanges() {
        due.promise(9, "behind n (0 to 200) DAYS");
        LavenderParts x = Due.plain(2);
        x.change(1, 2, 0);
        x.ahead(0, 9, 200);
        x.ahead(1, 8, 4);
        x.sings(1);
        x.together(0, 1);
        x.rest(99999);
        x.when(0, 9999);
        int[] now = {0, 0, 0, 0, 0, 0, 120, 0};
        for (int what = 0; what < 8; what++) {
            due.is("now " + what, x.now(what), now[what]);
        }
        due.is("she begins as ever", x.go(1), 1);
    }

    private static void promise10Sings() {
        due.promise(10, "Behind how many DAYS (0 to 400, the fewest) a SINGER sings. BEYOND. NONE.");
        LavenderParts x = Due.plain(1);
        for (int who : new int[] {Due.LEAST, -1, 1, 8, Due.MOST}) {
            due.is("singer " + who, x.sings(who), Due.BEYOND);
        }
        due.is("on the next day", x.sings(0), 1);
        x.change(0, 1, 59);
        due.is("on the year's last day", x.sings(0), 60);
        x.change(0, 7, 1);
        due.is("now", x.sings(0), 0);
        x.change(0, 6, 1);
        due.is("the dead", x.sings(0), Due.NONE);
        // Eight in a chain, 43 days from one's beginning to the next one's, the first behind 99.
        LavenderParts y = Due.plain(8);
        for (int who = 0; who < 8; who++) {
            y.change(who, 0, 4);
            y.change(who, 2, who - 1);
            y.change(who, 4, 120);
            y.change(who, 5, 5);
        }
        y.change(0, 8, 99);
        due.is("behind 400 days", y.sings(7), 400);
        y.change(6, 5, 6);
        due.is("behind 401 days", y.sings(7), Due.NONE);
        y.go(1);
        due.is("a day later", y.sings(7), 400);
    }

    private static void promise11Together() {
        due.promise(11, "Behind how many DAYS (0 to 400, the fewest) two sing at once.");
        // In the seventh year the elder is 120 and lasts a day longer: the other's first one.
        LavenderParts x = Due.plain(2);
        x.change(0, 0, 3);
        x.change(0, 4, 114);
        x.change(0, 1, 30);
        x.change(1, 1, 39);
        due.is("behind 400 days", x.together(0, 1), 400);
        due.is("the other way round", x.together(1, 0), 400);
        x.change(0, 1, 31);
        x.change(1, 1, 40);
        due.is("behind 401 days", x.together(0, 1), Due.NONE);
        x.change(1, 1, 39);
        due.is("in the first year", x.together(0, 1), 40);
        x.change(0, 7, 1);
        due.is("one sings now", x.together(0, 1), 40);
        x.change(1, 7, 1);
        due.is("both sing now", x.together(0, 1), 0);
        x.change(1, 6, 1);
        due.is("one is dead", x.together(0, 1), Due.NONE);
        due.promise(11, "BEYOND: also one and the same.");
        due.is("one and the same", x.together(0, 0), Due.BEYOND);
        for (int who : new int[] {Due.LEAST, -1, 2, 8, Due.MOST}) {
            due.is("first is " + who, x.together(who, 1), Due.BEYOND);
            due.is("second is " + who, x.together(1, who), Due.BEYOND);
        }
    }

    private static void promise12Rest() {
        due.promise(12, "STILL is v (0 to 99999) or more. BEYOND. NONE.");
        LavenderParts x = new LavenderParts();
        for (int v : new int[] {Due.LEAST, -1, 100000, Due.MOST}) {
            due.is("v " + v, x.rest(v), Due.BEYOND);
        }
        due.is("v 0", x.rest(0), 0);
        due.is("v 1", x.rest(1), 1);
        due.is("v 99999", x.rest(99999), Due.NONE);
        due.promise(12, "Behind how many DAYS (0 to 400, the fewest)");
        due.is("behind 400 days", x.rest(400), 400);
        due.is("behind 401 days", x.rest(401), Due.NONE);
        x.go(10);
        due.is("as it is", x.rest(10), 0);
        due.is("one more", x.rest(11), 1);
        due.is("behind 400 days more", x.rest(410), 400);
        due.is("behind 401 days more", x.rest(411), Due.NONE);
        x.singer(0, 10);
        due.is("as it is, though one begins", x.rest(10), 0);
        due.is("one begins", x.rest(11), 14);
    }

    private static void promise13When() {
        due.promise(13, "SOLD of a SINGER is v (0 to 9999) or more. BEYOND. NONE.");
        LavenderParts x = Due.plain(1);
        for (int v : new int[] {Due.LEAST, -1, 10000, Due.MOST}) {
            due.is("v " + v, x.when(0, v), Due.BEYOND);
        }
        for (int who : new int[] {Due.LEAST, -1, 1, 8, Due.MOST}) {
            due.is("singer " + who, x.when(who, 0), Due.BEYOND);
        }
        due.is("v 0", x.when(0, 0), 0);
        due.is("v 1", x.when(0, 1), 1);
        due.is("v 6", x.when(0, 6), 1);
        due.is("v 7", x.when(0, 7), 2);
        due.is("v 9999", x.when(0, 9999), Due.NONE);
        due.promise(13, "Behind how many DAYS (0 to 400, the fewest)");
        // Years of 18, 15, 15, 15, 15, 15 bunches, and 4 on the first day of the seventh.
        x.change(0, 1, 39);
        due.is("97 behind 400 days", x.when(0, 97), 400);
        due.is("98 behind 401 days", x.when(0, 98), Due.NONE);
        x.change(0, 9, 9998);
        due.is("9998 now", x.when(0, 9998), 0);
        due.is("9999 in this year", x.when(0, 9999), 40);
        x.change(0, 6, 1);
        due.is("the dead sells nothing", x.when(0, 9999), Due.NONE);
        due.is("but what she has sold", x.when(0, 9998), 0);
    }
}
