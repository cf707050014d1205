import java.lang.reflect.Method;
import java.util.ArrayList;
import java.util.Arrays;
import java.util.List;
import java.util.Random;

/** All promises: long runs of drawn calls, each answered by the program and by the model alike. */
public final class ModelTest {
    private static final int RUNS = 400;
    private static final int CALLS = 512;

    /** How each call's arguments are drawn (see draw); the capital ones are runs of their own. */
    private static final String[] CALLS_AND_ARGUMENTS = {
        "singer k d", "singer k d", "of v w", "of v w", "change v w *", "change v w *",
        "change v w *", "change v w *", "ANSWER", "ANSWER", "REVIVE", "answerers v", "strike v", "strike v", "go g", "go g", "go n",
        "now w", "now w", "ahead v w a", "ahead v w a", "sings v", "together v v", "rest r", "when v r",
        "beginFor v b", "answerFor v b", "kindFor v b", "ageFor v r", "hush g", "hush n", "longest a",
        "fits s v", "date s v", "kinds s v", "spring q", "odds q t", "seed z", "feed z q", "wipe",
        "TEXT", "TEXT", "hold p v", "hold p v", "as p k", "as p k", "sheet s y q", "sheet s y m",
        "TOLD", "TOLD", "write s q z", "write s q d", "copy s q s q q", "load s", "judge s", "image",
        "undo", "tear", "count w", "status e",
    };

    private static final String[] BITS = {
        "singer", "sister", "cabman", "elder", "last", "child", "caroller", "dead", "sings", "begins",
        "answers", "voice", "aged", "part", ";", ";", ";", " ", "0", "1", "2", "9", "30", "99", "100",
        "1000", "x", "A",
    };

    private final Random random;
    private final LavenderParts x = new LavenderParts();
    private final Model model = new Model();
    private final List<String> calls = new ArrayList<>();

    private ModelTest(long seed) {
        random = new Random(seed);
    }

    public static void main(String[] args) throws ReflectiveOperationException {
        int runs = args.length > 0 ? Integer.parseInt(args[0]) : RUNS;
        int first = args.length > 1 ? Integer.parseInt(args[1]) : 0;
        for (int seed = first; seed < first + runs; seed++) {
            if (!new ModelTest(seed).isAsDue()) {
                System.out.println("in the run of seed " + seed);
                System.exit(1);
            }
        }
    }

    private boolean isAsDue() throws ReflectiveOperationException {
        for (int i = 0; i < 3 && random.nextInt(4) > 0; i++) {
            if (!call("singer", draw('k'), draw('d'))) {
                return false;
            }
        }
        while (calls.size() < CALLS) {
            String[] words = CALLS_AND_ARGUMENTS[random.nextInt(CALLS_AND_ARGUMENTS.length)].split(" ");
            boolean isGood = switch (words[0]) {
                case "TEXT" -> textIsGood();
                case "TOLD" -> toldIsGood();
                case "ANSWER" -> call("change", draw('v'), 2, draw('v'));
                case "REVIVE" -> call("change", draw('v'), 6, 0);
                default -> call(words[0], arguments(words));
            };
            if (!isGood) {
                return false;
            }
        }
        return true;
    }

    private int[] arguments(String[] words) {
        int[] row = new int[words.length - 1];
        for (int i = 0; i < row.length; i++) {
            // What a change makes of a thing is drawn to fit it, mostly.
            row[i] = words[i + 1].equals("*") ? drawFor(row[1]) : draw(words[i + 1].charAt(0));
        }
        return row;
    }

    private int drawFor(int what) {
        int[] most = {6, 59, 7, 99, 120, 9, 1, 9, 20, 9999};
        if (what < 0 || what >= most.length) {
            return random.nextInt(10);
        }
        int least = what == 2 ? -1 : what == 5 ? 1 : 0;
        return edged(least, most[what]);
    }

    /** From least to most, but one time in sixteen just beyond. */
    private int edged(int least, int most) {
        int where = random.nextInt(64);
        if (where < 2) {
            return least - 1;
        }
        if (where < 4) {
            return most + 1;
        }
        if (where == 4) {
            return random.nextInt();
        }
        return least + random.nextInt(most - least + 1);
    }

    private int draw(char how) {
        return switch (how) {
            case 'k' -> edged(0, 6);
            case 'd' -> edged(0, 59);
            case 'v' -> random.nextInt(8) == 0 ? edged(0, 7) : random.nextInt(Math.max(1, x.count(1)));
            case 'w' -> edged(0, random.nextBoolean() ? 9 : 13);
            case 'g' -> edged(1, 6);
            case 'n' -> edged(1, 60);
            case 'a' -> edged(0, 200);
            case 'b' -> edged(0, random.nextBoolean() ? 20 : 120);
            case 'r' -> edged(0, new int[] {5, 50, 99, 9999}[random.nextInt(4)]);
            case 's' -> edged(0, 3);
            case 'q' -> edged(0, new int[] {3, 10, 20}[random.nextInt(3)]);
            case 't' -> edged(0, 1);
            case 'z' -> random.nextBoolean() ? random.nextInt() : edged(-2, 70);
            case 'p' -> edged(0, 9);
            case 'y' -> random.nextInt(8) == 0 ? random.nextInt(40) : 8 * (random.nextInt(2) + 1);
            case 'm' -> edged(0, 40);
            default -> edged(-1, 6);
        };
    }

    /** A text that is mostly good, with a drawn bit now and then. */
    private boolean textIsGood() throws ReflectiveOperationException {
        StringBuilder text = new StringBuilder();
        int items = 1 + random.nextInt(4);
        for (int i = 0; i < items; i++) {
            text.append(i > 0 ? ";" : "").append(item());
            if (random.nextInt(12) == 0) {
                text.append(BITS[random.nextInt(BITS.length)]);
            }
        }
        for (int i = 0; i < text.length(); i++) {
            int n = Math.min(1 + random.nextInt(4), text.length() - i);
            int bytes = 0;
            for (int j = 0; j < n; j++) {
                bytes = bytes << 8 | text.charAt(i + j);
            }
            i += n - 1;
            if (!call("feed", bytes, n)) {
                return false;
            }
        }
        return call("text");
    }

    private String item() {
        int who = random.nextInt(Math.max(1, x.count(1) + 1));
        if (random.nextInt(4) == 0) {
            return "dead " + who;
        }
        if (random.nextInt(4) == 0) {
            return "sings " + who + " " + (1 + random.nextInt(random.nextInt(9) == 0 ? 110 : 9));
        }
        StringBuilder item = new StringBuilder(BITS[random.nextInt(7)]);
        String[] words = {"begins", "answers", "voice", "aged", "part"};
        int[] most = {61, x.count(1) + 1, 101, 122, 10};
        for (int i = 0; i < words.length; i++) {
            if (random.nextInt(3) == 0) {
                item.append(" ").append(words[i]).append(random.nextBoolean() ? " " : "");
                item.append(random.nextInt(most[i]) + (i == 4 ? 1 : 0));
            }
        }
        return item.toString();
    }

    /** A sheet that tells what will be of somebody, or nearly so. */
    private boolean toldIsGood() throws ReflectiveOperationException {
        int n = random.nextInt(12);
        int who = draw('v');
        boolean isGood = call("sheet", 0, 16, n);
        for (int i = 0; isGood && i < n; i++) {
            int left = model.ahead(who, 7, i);
            x.ahead(who, 7, i);
            if (random.nextInt(3) > 0) {
                isGood = call("write", 0, i, random.nextInt(3) == 0 ? -1 : left);
            }
        }
        return isGood && call("fits", 0, who) && call("date", 0, who) && call("kinds", 0, who)
            && call("judge", 0);
    }

    private boolean call(String name, int... arguments) throws ReflectiveOperationException {
        long due = answer(model, name, arguments);
        long got = answer(x, name, arguments);
        String text = name + Arrays.toString(arguments) + " = " + got;
        calls.add(text);
        if (got != due) {
            System.out.println(String.join("\n", calls));
            System.out.println("the last of these answered " + got + ", due is " + due);
        }
        return got == due;
    }

    private static long answer(Object on, String name, int... arguments)
        throws ReflectiveOperationException {
        Class<?>[] types = new Class<?>[arguments.length];
        Arrays.fill(types, int.class);
        Method method = on.getClass().getDeclaredMethod(name, types);
        method.setAccessible(true);
        Object[] row = Arrays.stream(arguments).boxed().toArray();
        return ((Number) method.invoke(on, row)).longValue();
    }
}
