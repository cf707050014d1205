/** Promises 26 to 28: every boundary that the document's words name for texts. */
public final class TextsEdgesTest {
    private static final Due due = new Due();

    public static void main(String[] args) {
        promise26HowMany();
        promise26TheHighestFirst();
        promise26Full();
        promise27Wipe();
        promise28Items();
        promise28NothingIsThere();
        promise28EndsTooEarly();
        promise28Numbers();
        promise28TooLongNumbers();
        promise28WhoIsThereAlready();
        promise28OtherWords();
        promise28AsLongAsCanBe();
        promise28TheirOrder();
        promise28BytesThatBeginNoToken();
        promise28BlanksBetween();
        promise28TheNinth();
        promise28AWholeTape();
        promise28ItemByItem();
        promise28NothingChangesWithAFault();
        due.end();
    }

    private static void promise26HowMany() {
        due.promise(26, "(n 1 to 4): how many it has. BEYOND: n. FULL.");
        LavenderParts x = new LavenderParts();
        for (int n : new int[] {Due.LEAST, -1, 0, 5, Due.MOST}) {
            due.is("n " + n, x.feed(0, n), Due.BEYOND);
        }
        due.is("nothing came", x.count(5), 0);
        int has = 0;
        for (int n = 1; n <= 4; n++) {
            has += n;
            due.is("n " + n, x.feed(-1, n), has);
        }
    }

    private static void promise26TheHighestFirst() {
        due.promise(26, "THE TAPE gets the n lowest bytes of a number behind it, the highest of these first");
        LavenderParts x = new LavenderParts();
        x.feed(0x6C617374, 4);
        due.is("last", x.text(), 1);
        x.feed(0x5A5A6C61, 2);
        x.feed(0x5A5A5A73, 1);
        x.feed(0x5A5A5A74, 1);
        due.is("la s t, whatever is above", x.text(), 1);
        x.feed(0x5A6C6173, 3);
        x.feed(0x743B6C61, 4);
        x.feed(0x7374, 2);
        due.is("las t;la st", x.text(), 2);
        x.feed(0x74736C61, 4);
        due.is("tsla", x.text(), -1);
        x.feed(0xC3, 1);
        due.is("a byte above 127", x.text(), -1);
        // Bytes from 128 on aren't those that are 128 or 256 less.
        for (int b : new int[] {'l' + 128, 'l' - 256 + 128}) {
            x.feed(b, 1);
            x.feed(0x617374, 3);
            due.is("a byte above 127 and ast", x.text(), -1);
        }
        due.is("who came", x.count(1), 4);
    }

    private static void promise26Full() {
        due.promise(26, "BEYOND: n. FULL.");
        LavenderParts x = new LavenderParts();
        for (int i = 0; i < 29; i++) {
            x.feed(0, 4);
        }
        due.is("to 117", x.feed(0, 1), 117);
        due.is("four are too many", x.feed(0, 4), Due.FULL);
        due.is("none of them came", x.count(5), 117);
        due.is("three aren't", x.feed(0, 3), 120);
        for (int n = 1; n <= 4; n++) {
            due.is("full for " + n, x.feed(0, n), Due.FULL);
        }
        due.is("full, but n is 0", x.feed(0, 0), Due.BEYOND);
        due.is("full, but n is 5", x.feed(0, 5), Due.BEYOND);
        due.promise(26, "THE TAPE (bytes, at most 120)");
        due.is("bytes", x.count(5), 120);
        x.wipe();
        due.is("empty again", x.feed(0, 4), 4);
    }

    private static void promise27Wipe() {
        due.promise(27, "THE TAPE is empty: how many it had.");
        LavenderParts x = new LavenderParts();
        due.is("of an empty one", x.wipe(), 0);
        x.feed(0, 1);
        due.is("of one", x.wipe(), 1);
        due.is("again", x.wipe(), 0);
        for (int i = 0; i < 30; i++) {
            x.feed(0x6C617374, 4);
        }
        due.is("of a full one", x.wipe(), 120);
        due.is("none", x.count(5), 0);
        due.is("nothing is read from it", x.text(), -1);
        x.feed(0x6C617374, 4);
        due.is("only what came then", x.text(), 1);
    }

    private static void text(String text, int want) {
        LavenderParts x = new LavenderParts();
        due.is("\"" + text + "\"", Due.read(x, text), want);
        due.is("the tape behind it", x.count(5), 0);
        due.is("findings behind it", x.status(-1), 0);
        if (want < 0) {
            due.is("singers behind it", x.count(1), 0);
        }
    }

    private static void promise28Items() {
        due.promise(28, "TEXT: ITEM { ; ITEM }.");
        text("singer", 1);
        text("singer;sister", 2);
        text("singer;sister;cabman;elder;last;child;caroller", 7);
        text("last;dead 0;sings 0 1;dead 0;sings 0 99", 5);
        text("last;last begins 1 answers 0 voice 2 aged 3 part 4", 2);
        text("last;last answers 0 part 4;last voice 1 part 1", 3);
    }

    private static void promise28NothingIsThere() {
        due.promise(28, "or how many bytes there are if it ends too early");
        text("", -1);
        text(" ", -2);
        text("     ", -6);
        LavenderParts x = new LavenderParts();
        for (int i = 0; i < 30; i++) {
            x.feed(0x20202020, 4);
        }
        due.is("120 blanks", x.text(), -121);
    }

    private static void promise28EndsTooEarly() {
        due.promise(28, "or how many bytes there are if it ends too early");
        for (String text : new String[] {
            "last;", "last; ", "last;last;", "last begins", "last begins ", "last voice", "last aged", "last part",
            "last;last answers", "dead", "dead  ", "sings", "last;sings 0", "last;sings 0 ", "last begins 5 voice",
        }) {
            text(text, -1 - text.length());
        }
    }

    /** A word whose number may lie from least to most, behind "last;last ". */
    private static void numbers(String words, String word, int least, int most) {
        due.promise(28, words);
        String ahead = "last;last " + word + " ";
        int fault = -1 - ahead.length();
        text(ahead + least, 2);
        text(ahead + most, 2);
        text(ahead + (most + 1), fault);
        text(ahead + "999", fault);
        text(ahead + "1000", fault);
        if (least > 0) {
            text(ahead + (least - 1), fault);
        }
        text(ahead + "-1", fault);
        text(ahead + ";", fault);
        text(ahead + "last", fault);
        text(ahead + most + " " + most, -1 - (ahead + most + " ").length());
    }

    private static void promise28Numbers() {
        numbers("perhaps begins and a NUMBER (0 to 59)", "begins", 0, 59);
        numbers("perhaps answers and a NUMBER (one who is there already)", "answers", 0, 0);
        numbers("perhaps voice and a NUMBER (0 to 99)", "voice", 0, 99);
        numbers("perhaps aged and a NUMBER (0 to 120)", "aged", 0, 120);
        numbers("perhaps part and a NUMBER (1 to 9): a new one", "part", 1, 9);
        due.promise(28, "sings, two NUMBERS (one who is there already, 1 to 99: LEFT)");
        text("last;sings 0 1", 2);
        text("last;sings 0 99", 2);
        text("last;sings 0 0", -14);
        text("last;sings 0 100", -14);
        text("last;sings 1 5", -12);
        text("last;sings 0 5 5", -16);
        text("last;sings 0 last", -14);
        text("last;sings last", -12);
        due.promise(28, "dead, a NUMBER (one who is there already)");
        text("last;dead 0", 2);
        text("last;dead 1", -11);
        text("last;dead last", -11);
        text("last;dead 0 0", -13);
    }

    private static void promise28TooLongNumbers() {
        due.promise(28, "NUMBERS (digits, 999 at most)");
        text("last aged 999", -11);
        text("last aged 1000", -11);
        text("last aged 1200", -11);
        text("last aged 4294967297", -11);
        text("last aged 18446744073709551617", -11);
        text("last aged 99999999999999999999999999999999", -11);
        text("last aged 0", 1);
        text("last aged 00000000000000000120", 1);
        text("last aged 00000000000000000121", -11);
        text("last;dead 4294967296", -11);
    }

    private static void promise28WhoIsThereAlready() {
        due.promise(28, "(one who is there already)");
        text("last answers 0", -14);
        text("last;last answers 1", -19);
        text("last;last;last answers 1", 3);
        text("last;last;last answers 2", -24);
        text("dead 0", -6);
        text("dead 0;last", -6);
        text("sings 0 5;last", -7);
        LavenderParts x = Due.plain(7);
        due.is("the eighth answers the seventh", Due.read(x, "last answers 6"), 1);
        due.is("dead is the eighth", Due.read(x, "dead 7"), 1);
        due.is("dead is a ninth", Due.read(x, "dead 8"), -6);
        due.is("the eighth sings", Due.read(x, "sings 7 1"), 1);
        due.is("a ninth sings", Due.read(x, "sings 8 1"), -7);
        due.is("whom she answers", x.of(7, 2), 6);
        due.is("who is dead", x.now(5), 128);
        due.is("her left", x.of(7, 7), 1);
    }

    private static void promise28OtherWords() {
        due.promise(28, "the place (from 0) of the first byte of the first TOKEN that can't stand there");
        text("cat", -1);
        text("cast", -1);
        text("lost", -1);
        text("lass", -1);
        text("last pegins 5", -6);
        text("begins 5", -1);
        text("voice", -1);
        text("5", -1);
        text(";last", -1);
        text("last last", -6);
        text("last 5", -6);
        text("last dead 0", -6);
        text("last;;last", -6);
        text("last;5", -6);
        text("last;part 5", -6);
        text("last;dead 0 last", -13);
        text("last;dead;", -10);
        text("last;sings;", -11);
        text("last cat begins 77", -6);
    }

    private static void promise28AsLongAsCanBe() {
        due.promise(28, "TOKENS, each as long as can be: WORDS (letters a to z)");
        text("lastlast", -1);
        text("lastbegins 5", -1);
        text("las", -1);
        text("lasts", -1);
        text("lasta", -1);
        text("lastz", -1);
        text("alast", -1);
        text("zlast", -1);
        text("singers", -1);
        text("sing", -1);
        text("sings", -6);
        text("l ast", -1);
        text("las t", -1);
        text("last begin 5", -6);
        text("last beginss 5", -6);
        text("last begins5", 1);
        text("last begins5voice6aged7part8", 1);
        text("last begins 5 9", -15);
        text("last;dead0", 2);
        text("last;sings0 5", 2);
        text("last;sings 05", -12);
        text("last5", -5);
    }

    private static void promise28TheirOrder() {
        due.promise(28, "perhaps begins and a NUMBER (0 to 59), perhaps answers and a NUMBER (one who is there already), perhaps voice and a NUMBER (0 to 99), perhaps aged and a NUMBER (0 to 120), perhaps part and a NUMBER (1 to 9)");
        String[] words = {"begins 0", "answers 0", "voice 1", "aged 1", "part 1"};
        for (int i = 0; i < words.length; i++) {
            for (int j = 0; j < words.length; j++) {
                String ahead = "last;last " + words[i] + " ";
                text(ahead + words[j], i < j ? 2 : -1 - ahead.length());
            }
        }
    }

    private static void promise28BytesThatBeginNoToken() {
        due.promise(28, "a byte that begins no TOKEN");
        for (int b = 0; b < 256; b++) {
            boolean isToken = b >= 'a' && b <= 'z' || b >= '0' && b <= '9' || b == ';' || b == ' ';
            if (!isToken) {
                LavenderParts y = new LavenderParts();
                y.feed(0x6C617374, 4);
                y.feed(b, 1);
                due.is("byte " + b + " behind a word", y.text(), -5);
                y.feed(b, 1);
                due.is("byte " + b, y.text(), -1);
            }
        }
        text("last begins 5.", -14);
        text("last begins +5", -13);
        text("last begins 5, voice 6", -14);
        text("Last", -1);
        text("lasT", -1);
        text("last Begins 5", -6);
        text("last`", -5);
        text("last{", -5);
        text("last;dead 0/", -12);
        text("last;dead 0:", -12);
    }

    private static void promise28BlanksBetween() {
        due.promise(28, "blanks may stand between");
        text(" last", 1);
        text("last ", 1);
        text("  last  ;  last  begins  5  ", 2);
        text("last;last", 2);
        text("last begins\t5", -12);
        text("last\n", -5);
        text("last\r;last", -5);
    }

    private static void promise28TheNinth() {
        due.promise(28, "the WORD of a 9th SINGER: its own");
        text("last;last;last;last;last;last;last;last", 8);
        text("last;last;last;last;last;last;last;last;dead 7", 9);
        text("last;last;last;last;last;last;last;last;last", -41);
        text("last;last;last;last;last;last;last;last; child begins 99", -42);
        text("last;last;last;last;last;last;last;last;cat", -41);
        LavenderParts x = Due.plain(8);
        due.is("a ninth", Due.read(x, "last"), -1);
        due.is("a ninth behind an item", Due.read(x, "dead 0;last begins 99"), -8);
        due.is("nobody is dead", x.now(5), 0);
        due.is("no finding", x.status(-1), 0);
    }

    private static void promise28AWholeTape() {
        due.promise(28, "THE TAPE (bytes, at most 120)");
        StringBuilder text = new StringBuilder("last");
        while (text.length() < 113) {
            text.append(";dead 0");
        }
        text.append("      0".substring(0, 120 - text.length()));
        LavenderParts x = new LavenderParts();
        due.is("120 bytes", Due.read(x, text.toString()), 17);
        text.setLength(0);
        text.append("last").append(" ".repeat(115)).append("!");
        due.is("a fault at the last byte", Due.read(x, text.toString()), -120);
        text.setCharAt(119, ';');
        due.is("an end behind the last byte", Due.read(x, text.toString()), -121);
        text.setCharAt(119, '5');
        due.is("a number at the last byte", Due.read(x, text.toString()), -120);
    }

    private static void promise28ItemByItem() {
        due.promise(28, "all that it tells is so, item by item: how many ITEMS");
        LavenderParts x = new LavenderParts();
        due.is("items", Due.read(x, "singer begins 59 voice 0 aged 0 part 1;sings 0 5;sings 0 7;dead 0;sings 0 9"), 5);
        int[] own = {0, 59, -1, 0, 0, 1, 1, 9, 0, 0};
        for (int what = 0; what < own.length; what++) {
            due.is("what " + what, x.of(0, what), own[what]);
        }
        due.is("one more", Due.read(x, "elder answers 0 voice 99 aged 120 part 9"), 1);
        int[] other = {3, 0, 0, 99, 120, 9, 0, 0, 0, 0};
        for (int what = 0; what < other.length; what++) {
            due.is("what " + what + " of the other", x.of(1, what), other[what]);
        }
        // A text that tells of singing leaves their waiting and their bunches as they were.
        x.change(1, 8, 4);
        x.change(1, 9, 5);
        due.is("she sings", Due.read(x, "sings 1 3"), 1);
        due.is("she waits yet", x.of(1, 8), 4);
        due.is("she has sold", x.of(1, 9), 5);
    }

    private static void promise28NothingChangesWithAFault() {
        due.promise(28, "With a FAULT: -1 less the FAULT (nothing changes but that THE TAPE is empty; no finding).");
        LavenderParts x = Due.plain(2);
        x.change(1, 7, 4);
        x.go(1);
        x.hold(2, 1);
        due.is("fault", Due.read(x, "dead 0;sings 1 99;last begins 7;dead 2;cat"), -40);
        due.is("bytes", x.count(5), 0);
        due.is("read again", x.text(), -1);
        int[] counts = {1, 2, 12, 0, 0, 0, 1, 1};
        for (int what = 0; what < counts.length; what++) {
            due.is("count " + what, x.count(what), counts[what]);
        }
        due.is("left", x.of(1, 7), 3);
        due.is("no finding", x.status(-1), 0);
        x.singer(5, 9);
        int[] first = {5, 9, -1, 60, 30, 3, 0, 0, 0, 0};
        for (int what = 0; what < first.length; what++) {
            due.is("a new one's " + what, x.of(2, what), first[what]);
        }
    }
}
