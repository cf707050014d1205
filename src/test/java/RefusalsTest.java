import java.lang.reflect.Method;
import java.util.ArrayList;
import java.util.Arrays;
import java.util.List;

/**
 * All promises: "one that answers a finding changes nothing but status()". Each refused call is made
 * on a square full of everything, and all that can be seen of it is then as on one without the call.
 */
public final class RefusalsTest {
    private static final Due due = new Due();

    /** The promise, the call with its arguments, and the finding that it answers. */
    private static final String[] REFUSED = {
        "2 singer 7 0 BEYOND", "2 singer 0 60 BEYOND", "2 singer -1 -1 BEYOND", "2 singer 0 0 FULL",
        "3 of 8 0 BEYOND", "3 of 0 14 BEYOND",
        "4 change 8 0 0 BEYOND", "4 change 0 10 0 BEYOND", "4 change 0 0 7 BEYOND", "4 change 0 1 60 BEYOND",
        "4 change 0 2 0 BEYOND", "4 change 0 2 8 BEYOND", "4 change 0 3 100 BEYOND", "4 change 0 4 121 BEYOND",
        "4 change 0 5 0 BEYOND", "4 change 0 6 2 BEYOND", "4 change 0 7 100 BEYOND", "4 change 0 8 -1 BEYOND",
        "4 change 0 9 10000 BEYOND",
        "5 answerers 8 BEYOND", "6 strike 8 BEYOND", "6 strike 3 STATE",
        "7 go 0 BEYOND", "7 go 61 BEYOND", "8 now 8 BEYOND",
        "9 ahead 8 3 1 BEYOND", "9 ahead 0 5 1 BEYOND", "9 ahead 0 3 201 BEYOND",
        "10 sings 8 BEYOND", "10 sings 3 NONE",
        "11 together 0 8 BEYOND", "11 together 1 1 BEYOND", "11 together 1 3 NONE",
        "12 rest 100000 BEYOND", "12 rest 99999 NONE",
        "13 when 8 0 BEYOND", "13 when 0 10000 BEYOND", "13 when 3 9999 NONE",
        "14 beginFor 8 1 BEYOND", "14 beginFor 0 121 BEYOND",
        "15 answerFor 8 1 BEYOND", "15 answerFor 0 121 BEYOND",
        "16 kindFor 8 1 BEYOND", "16 kindFor 0 121 BEYOND",
        "17 ageFor 8 1 BEYOND", "17 ageFor 0 100 BEYOND", "17 ageFor 0 0 NONE",
        "18 hush 61 BEYOND", "19 longest 201 BEYOND",
        "20 fits 4 0 BEYOND", "20 fits 3 0 MISSING", "20 fits 0 8 BEYOND",
        "21 date 4 0 BEYOND", "21 date 3 0 MISSING", "21 date 0 8 BEYOND", "21 date 0 0 NONE",
        "22 kinds 4 0 BEYOND", "22 kinds 3 0 MISSING", "22 kinds 0 8 BEYOND",
        "23 spring 0 BEYOND", "23 spring 21 BEYOND", "24 odds 11 0 BEYOND", "24 odds 0 2 BEYOND",
        "26 feed 0 5 BEYOND", "26 feed 0 2 FULL",
        "29 hold 10 0 BEYOND", "29 hold 0 8 BEYOND",
        "30 as 10 0 BEYOND", "30 as 0 7 BEYOND", "30 as 9 0 MISSING", "30 as 0 4 KIND",
        "31 sheet 4 8 1 BEYOND", "31 sheet 0 9 1 BEYOND", "31 sheet 0 8 -1 SIZE", "31 sheet 0 0 -1 SIZE",
        "31 sheet 0 8 41 BEYOND", "31 sheet 0 0 41 BEYOND",
        "32 write 4 0 1 BEYOND", "32 write 3 0 1 MISSING", "32 write 0 3 1 BEYOND", "32 write 0 -1 1 BEYOND",
        "33 copy 4 0 0 0 1 BEYOND", "33 copy 0 0 4 0 1 BEYOND", "33 copy 0 0 3 0 1 MISSING",
        "33 copy 3 0 0 0 1 MISSING", "33 copy 0 0 1 0 1 KIND", "33 copy 0 0 2 1 3 BEYOND",
        "33 copy 0 1 2 0 3 BEYOND", "33 copy 0 -1 2 0 1 BEYOND", "33 copy 0 0 2 -1 1 BEYOND",
        "33 copy 0 0 2 0 -1 BEYOND",
        "34 load 4 BEYOND", "34 load 3 MISSING", "35 judge 4 BEYOND", "35 judge 3 MISSING",
        "39 count 8 BEYOND", "40 status 7 BEYOND",
    };

    private static final List<String> FINDINGS =
        List.of("BEYOND", "FULL", "KIND", "NONE", "STATE", "MISSING", "SIZE");

    public static void main(String[] args) throws ReflectiveOperationException {
        List<Long> untouched = allThatShows(squareFullOfEverything());
        for (String row : REFUSED) {
            String[] words = row.split(" ");
            due.promise(Integer.parseInt(words[0]), "one that answers a finding changes nothing but status()");
            LavenderParts x = squareFullOfEverything();
            int finding = FINDINGS.indexOf(words[words.length - 1]);
            due.is(row, call(x, words), -1000001 - finding);
            for (int which = 0; which < 7; which++) {
                due.is(row + ": status " + which, x.status(which), which == finding ? 1 : 0);
            }
            List<Long> shown = allThatShows(x);
            for (int i = 0; i < untouched.size(); i++) {
                due.is(row + ": what shows at " + i, shown.get(i), untouched.get(i));
            }
        }
        due.promise(37, "one that answers a finding changes nothing but status()");
        LavenderParts x = squareFullOfEverything();
        x.tear();
        due.is("undo", x.undo(), Due.NONE);
        LavenderParts y = squareFullOfEverything();
        y.tear();
        due.is("undo changes nothing", allThatShows(x).equals(allThatShows(y)) ? 1 : 0, 1);
        due.end();
    }

    /** Eight singers, one dead, some singing or waiting; spots, sheets, an image and all but one byte. */
    private static LavenderParts squareFullOfEverything() {
        LavenderParts x = new LavenderParts();
        for (int who = 0; who < 8; who++) {
            x.singer(who % 7, 7 * who);
            x.change(who, 3, 60 + who);
            x.change(who, 9, 10 * who);
        }
        x.change(1, 2, 0);
        x.change(4, 2, 1);
        x.change(3, 6, 1);
        x.change(3, 7, 4);
        x.change(6, 8, 9);
        x.hold(0, 1);
        x.hold(5, 7);
        x.seed(77);
        x.go(5);
        x.image();
        x.go(3);
        x.strike(5);
        x.hold(0, 2);
        Due.lay(x, 0, 1, 2, 3);
        Due.layOfBits(x, 1, 16, 4, 5);
        Due.lay(x, 2, 6, 7, 8);
        Due.feed(x, "dead 1;sings 2 9");
        for (int i = 0; i < 25; i++) {
            x.feed(0x20202020, 4);
        }
        x.feed(0x202020, 3);
        return x;
    }

    private static long call(LavenderParts x, String[] words) throws ReflectiveOperationException {
        int many = words.length - 3;
        Class<?>[] types = new Class<?>[many];
        Arrays.fill(types, int.class);
        Object[] arguments = new Object[many];
        for (int i = 0; i < many; i++) {
            arguments[i] = Integer.valueOf(words[i + 2]);
        }
        Method method = LavenderParts.class.getMethod(words[1], types);
        return ((Number) method.invoke(x, arguments)).longValue();
    }

    /** Looks at everything, status() apart; what it changes on the way, it changes on every square. */
    private static List<Long> allThatShows(LavenderParts x) {
        List<Long> row = new ArrayList<>();
        square(x, row);
        numbers(x, 0, row, 1, 2, 3);
        numbers(x, 1, row, 4, 5);
        numbers(x, 2, row, 6, 7, 8);
        numbers(x, 3, row);
        row.add((long) x.text());
        row.add((long) x.now(1));
        row.add((long) x.now(5));
        row.add((long) x.undo());
        square(x, row);
        return row;
    }

    private static void square(LavenderParts x, List<Long> row) {
        for (int who = 0; who < 8; who++) {
            for (int what = 0; what < 14; what++) {
                row.add((long) x.of(who, what));
            }
        }
        for (int what = 0; what < 8; what++) {
            row.add((long) x.now(what));
            row.add((long) x.count(what));
        }
        for (int spot = 0; spot < 10; spot++) {
            row.add((long) x.as(spot, 0));
        }
    }

    /** Whether a sheet's numbers are these shows in judge(), if so many bunches were sold. */
    private static void numbers(LavenderParts x, int s, List<Long> row, int... laid) {
        for (int who = 0; who < laid.length; who++) {
            x.change(who, 9, laid[who]);
        }
        row.add((long) x.judge(s));
    }
}
