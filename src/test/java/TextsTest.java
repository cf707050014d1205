/** Promises 26 to 28: feed, wipe, text. */
public final class TextsTest {
    private static final Due due = new Due();

    public static void main(String[] args) {
        feed();
        text();
        goodTexts();
        faults();
        faultsBesideSingers();
        nothingChanges();
        due.end();
    }

    private static void feed() {
        LavenderParts x = new LavenderParts();
        due.is("n 0", x.feed(0, 0), Due.BEYOND);
        due.is("n 5", x.feed(0, 5), Due.BEYOND);
        due.is("n -1", x.feed(0, -1), Due.BEYOND);
        due.is("three", x.feed(0x7F6C6173, 3), 3);
        due.is("one", x.feed(0x74, 1), 4);
        due.is("the highest first", x.text(), 1);
        due.is("a last", x.of(0, 0), 4);
        for (int i = 1; i <= 29; i++) {
            due.is("four", x.feed(0, 4), 4 * i);
        }
        due.is("three", x.feed(0, 3), 119);
        due.is("two are too many", x.feed(0, 2), Due.FULL);
        due.is("one isn't", x.feed(0, 1), 120);
        due.is("full", x.feed(0, 1), Due.FULL);
        due.is("full, but n", x.feed(0, 5), Due.BEYOND);
        due.is("bytes", x.count(5), 120);
        due.is("wipe", x.wipe(), 120);
        due.is("wipe again", x.wipe(), 0);
        due.is("none", x.count(5), 0);
    }

    private static void text() {
        LavenderParts x = new LavenderParts();
        String text = "singer begins 12;sister answers 0 voice 99 aged 120 part 9;dead 0;sings 1 99";
        due.is("items", Due.read(x, text), 4);
        due.is("the tape is empty", x.count(5), 0);
        int[] first = {0, 12, -1, 60, 30, 3, 1, 0, 0, 0};
        int[] second = {1, 0, 0, 99, 120, 9, 0, 99, 0, 0};
        for (int what = 0; what < 10; what++) {
            due.is("first " + what, x.of(0, what), first[what]);
            due.is("second " + what, x.of(1, what), second[what]);
        }
        due.is("more", Due.read(x, "cabman answers 1;elder;last;child;caroller;dead 2"), 6);
        due.is("how many", x.count(1), 7);
        int[] kinds = {0, 1, 2, 3, 4, 5, 6};
        for (int i = 0; i < 7; i++) {
            due.is("kind " + i, x.of(i, 0), kinds[i]);
        }
        due.is("whom she answers", x.of(2, 2), 1);
        due.is("who is dead", x.now(5), 5);
        due.is("an empty tape", x.text(), -1);
    }

    private static void goodTexts() {
        String[] texts = {
            "last", " last ", "last begins0voice0aged0part1", "last begins 59 part 9", "last aged 000120",
            "last;dead 0;dead 0", "last ; sings 0 1;sings 0 99", "dead 0", "  sings0 5",
            "child;child;child;child;child;child;child",
        };
        int[] items = {1, 1, 1, 1, 1, 3, 3, 1, 1, 7};
        for (int i = 0; i < texts.length; i++) {
            LavenderParts x = new LavenderParts();
            x.singer(0, 0);
            due.is(texts[i], Due.read(x, texts[i]), items[i]);
        }
    }

    private static void fault(String text, int place) {
        due.is(text, Due.read(new LavenderParts(), text), -1 - place);
    }

    private static void faults() {
        fault("", 0);
        fault("   ", 3);
        fault(" ;", 1);
        fault("5", 0);
        fault("Last", 0);
        fault("lasT", 0);
        fault("last T", 5);
        fault("lastbegins 3", 0);
        fault("lastz", 0);
        fault("cast", 0);
        fault("last, child", 4);
        fault("last child", 5);
        fault("last;;child", 5);
        fault("last; ", 6);
        fault("last begins", 11);
        fault("last begins  ", 13);
        fault("last begins x", 12);
        fault("last begins;", 11);
        fault("last begins 60", 12);
        fault("last begins 5 begins 6", 14);
        fault("last voice 5 begins 6", 13);
        fault("last voice 100", 11);
        fault("last aged 121", 10);
        fault("last aged 1000", 10);
        fault("last aged 4294967296", 10);
        fault("last part 0", 10);
        fault("last part 10", 10);
        fault("last part 1 2", 12);
        fault("last part -1", 10);
        fault("last answers 0", 13);
        fault("last;last answers 1", 18);
        fault("last;last answers 0 begins 1", 20);
        fault("dead", 4);
        fault("dead 0", 5);
        fault("last;dead 1;doctor", 10);
        fault("last;dead 0 0", 12);
        fault("last;sings", 10);
        fault("last;sings 0", 12);
        fault("last;sings 1 5", 11);
        fault("last;sings 0 0", 13);
        fault("last;sings 0 100", 13);
        fault("last;sings 0;", 12);
        fault("last;sing 0 5", 5);
        fault("last\t", 4);
        fault("last\u00e9", 4);
        fault("last\0", 4);
        fault("child;child;child;child;child;child;child;child; child begins 77", 49);
    }

    private static void faultsBesideSingers() {
        LavenderParts x = new LavenderParts();
        for (int i = 0; i < 7; i++) {
            x.singer(0, 0);
        }
        due.is("a ninth", Due.read(x, "last answers 6;last"), -16);
        due.is("still seven", x.count(1), 7);
        due.is("an eighth", Due.read(x, "last answers 6;dead 7;sings 7 2"), 3);
        due.is("a ninth again", Due.read(x, "last"), -1);
        due.is("no finding", x.status(-1), 0);
    }

    private static void nothingChanges() {
        LavenderParts x = new LavenderParts();
        x.singer(0, 0);
        due.is("fault", Due.read(x, "dead 0;sings 0 5;last;part"), -23);
        due.is("the tape is empty", x.count(5), 0);
        due.is("not dead", x.of(0, 6), 0);
        due.is("not singing", x.of(0, 7), 0);
        due.is("nobody new", x.count(1), 1);
        due.is("no finding", x.status(-1), 0);
    }
}
