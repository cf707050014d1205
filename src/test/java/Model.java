import java.math.BigInteger;
import java.util.ArrayList;
import java.util.Arrays;
import java.util.HashSet;
import java.util.List;
import java.util.Set;
import java.util.function.IntPredicate;
import java.util.function.ToIntFunction;

/**
 * The document a second time, as near to its words as can be and with no thought of cost or of the
 * program's own way: kinds are a tree of classes, every search tries all, texts are split first.
 */
final class Model {
    static final int LOW = -1000001;

    /** A kind's words; one under another takes over what it doesn't say itself. */
    static class Plain {
        int gap(One s) { return 1; }
        int lasts(One s) { return s.part; }
        int sells(One s, World w) { return s.voice / 10; }
        int wears(One s) { return 2; }
    }

    static class Sister extends Plain {
        @Override int gap(One s) { return super.gap(s) + s.age / 10; }
        @Override int lasts(One s) { return super.lasts(s) + 1; }
        @Override int sells(One s, World w) {
            boolean isAlive = s.answers != -1 && !w.all.get(s.answers).dead;
            return super.sells(s, w) + (isAlive ? 1 : 0);
        }
    }

    static class Elder extends Sister {
        @Override int gap(One s) { return 2 * super.gap(s); }
        @Override int lasts(One s) { return super.lasts(s) + s.age / 20; }
        @Override int wears(One s) { return 2 * super.wears(s); }
    }

    static class Last extends Elder {
        @Override int gap(One s) { return super.gap(s) + 5; }
        @Override int wears(One s) { return super.wears(s) - 1; }
        @Override int sells(One s, World w) {
            return w.all.stream().noneMatch(t -> t != s && t.sings()) ? 16 : super.sells(s, w);
        }
    }

    static class Cabman extends Plain {
        @Override int gap(One s) { return 3; }
        @Override int lasts(One s) { return super.lasts(s) / 2 + 1; }
        @Override int sells(One s, World w) { return 1; }
        @Override int wears(One s) { return 0; }
    }

    static class Caroller extends Cabman {
        @Override int gap(One s) { return super.gap(s) - (s.voice >= 50 ? 1 : 0); }
        @Override int lasts(One s) { return super.lasts(s) + 2; }
        @Override int sells(One s, World w) { return super.sells(s, w) + 2; }
        @Override int wears(One s) { return super.wears(s) + 1; }
    }

    static class Child extends Plain {
        @Override int gap(One s) { return 1; }
        @Override int lasts(One s) { return 1; }
        @Override int sells(One s, World w) { return super.sells(s, w) + 3; }
        @Override int wears(One s) { return s.age >= 15 ? 0 : -5; }
    }

    static final List<Plain> KINDS = List.of(new Plain(), new Sister(), new Cabman(), new Elder(),
        new Last(), new Child(), new Caroller());
    static final List<String> WORDS =
        List.of("singer", "sister", "cabman", "elder", "last", "child", "caroller");

    static final class One implements Cloneable {
        int kind;
        int begins;
        int answers = -1;
        int voice = 60;
        int age = 30;
        int part = 3;
        boolean dead;
        int left;
        int waits;
        int sold;

        boolean sings() { return left > 0 && !dead; }

        void begin() {
            left = Math.min(99, KINDS.get(kind).lasts(this));
            waits = 0;
        }

        One twin() {
            try {
                return (One) clone();
            } catch (CloneNotSupportedException e) {
                throw new IllegalStateException(e);
            }
        }

        int get(int what, World w) {
            Plain k = KINDS.get(kind);
            int[] row = {kind, begins, answers, voice, age, part, dead ? 1 : 0, left, waits, sold,
                k.gap(this), k.lasts(this), k.sells(this, w), k.wears(this)};
            return row[what];
        }

        void set(int what, int v) {
            switch (what) {
                case 0 -> kind = v;
                case 1 -> begins = v;
                case 2 -> answers = v;
                case 3 -> voice = v;
                case 4 -> age = v;
                case 5 -> part = v;
                case 6 -> dead = v == 1;
                case 7 -> left = v;
                case 8 -> waits = v;
                default -> sold = v;
            }
        }
    }

    static final class World {
        List<One> all = new ArrayList<>();
        int day;
        int still;
        int z = 1;
        int[] spots = new int[10];

        World() { Arrays.fill(spots, -1); }

        World twin() {
            World w = new World();
            for (One s : all) {
                w.all.add(s.twin());
            }
            w.day = day;
            w.still = still;
            w.z = z;
            w.spots = spots.clone();
            return w;
        }

        World later(int n) {
            World w = twin();
            for (int i = 0; i < n; i++) {
                w.aDay();
            }
            return w;
        }

        void aDay() {
            Set<Integer> ended = new HashSet<>();
            for (int i = 0; i < all.size(); i++) {
                One s = all.get(i);
                if (!s.dead && s.left > 0 && --s.left == 0) {
                    ended.add(i);
                }
            }
            for (int i = 0; i < all.size(); i++) {
                One s = all.get(i);
                if (s.dead || s.left > 0 || ended.contains(i)) {
                    continue;
                }
                if (s.waits > 0) {
                    if (--s.waits == 0) {
                        s.begin();
                    }
                } else if (s.answers >= 0 && ended.contains(s.answers)) {
                    s.waits = Math.min(99, KINDS.get(s.kind).gap(s));
                } else if (s.answers == -1 && day % 60 == s.begins) {
                    s.begin();
                }
            }
            boolean isSung = false;
            for (One s : all) {
                if (s.sings()) {
                    s.sold = Math.min(9999, s.sold + KINDS.get(s.kind).sells(s, this));
                    isSung = true;
                }
            }
            still = isSung ? 0 : Math.min(99999, still + 1);
            if (day % 60 == 59) {
                for (One s : all) {
                    if (!s.dead) {
                        int wears = KINDS.get(s.kind).wears(s);
                        s.age = Math.min(120, s.age + 1);
                        s.voice = Math.min(99, Math.max(0, s.voice - wears));
                    }
                }
            }
            day = Math.min(99999, day + 1);
        }

        int set(java.util.function.Predicate<One> p) {
            int set = 0;
            for (int i = 0; i < all.size(); i++) {
                set += p.test(all.get(i)) ? 1 << i : 0;
            }
            return set;
        }

        int sum(ToIntFunction<One> f) { return all.stream().mapToInt(f).sum(); }

        int draw() {
            z = (int) ((long) z * 1103515245L + 12345L);
            return z >>> 8;
        }
    }

    World w = new World();
    World kept;
    StringBuilder tape = new StringBuilder();
    /** Of each sheet its numbers behind the bits; null while it is missing. */
    int[][] sheets = new int[4][];
    int[] told = new int[7];

    private int find(int finding) {
        told[finding]++;
        return LOW - finding;
    }

    private boolean no(int singer) { return singer < 0 || singer >= w.all.size(); }

    private static boolean out(int v, int least, int most) { return v < least || v > most; }

    int singer(int kind, int date) {
        if (out(kind, 0, 6) || out(date, 0, 59)) return find(0);
        if (w.all.size() == 8) return find(1);
        One s = new One();
        s.kind = kind;
        s.begins = date;
        w.all.add(s);
        return w.all.size() - 1;
    }

    int of(int singer, int what) {
        return no(singer) || out(what, 0, 13) ? find(0) : w.all.get(singer).get(what, w);
    }

    int change(int singer, int what, int v) {
        if (no(singer)) return find(0);
        boolean isGood = switch (what) {
            case 0 -> !out(v, 0, 6);
            case 1 -> !out(v, 0, 59);
            case 2 -> v == -1 || !no(v) && v != singer;
            case 3, 7, 8 -> !out(v, 0, 99);
            case 4 -> !out(v, 0, 120);
            case 5 -> !out(v, 1, 9);
            case 6 -> !out(v, 0, 1);
            case 9 -> !out(v, 0, 9999);
            default -> false;
        };
        if (!isGood) return find(0);
        int was = w.all.get(singer).get(what, w);
        w.all.get(singer).set(what, v);
        return was;
    }

    int answerers(int singer) { return no(singer) ? find(0) : w.set(s -> s.answers == singer); }

    int strike(int singer) {
        if (no(singer)) return find(0);
        if (w.all.get(singer).dead) return find(4);
        w.all.get(singer).begin();
        return w.all.get(singer).left;
    }

    int go(int n) {
        if (out(n, 1, 60)) return find(0);
        if (w.day + n > 99999) return find(4);
        w = w.later(n);
        return w.set(One::sings);
    }

    int now(int what) {
        return switch (what) {
            case 0 -> w.day;
            case 1 -> w.set(One::sings);
            case 2 -> w.set(s -> s.waits > 0 && !s.dead);
            case 3 -> w.still;
            case 4 -> w.sum(s -> s.sold);
            case 5 -> w.set(s -> s.dead);
            case 6 -> w.sum(s -> s.voice);
            case 7 -> w.day % 60;
            default -> find(0);
        };
    }

    int ahead(int singer, int what, int n) {
        if (no(singer) || !List.of(3, 4, 7, 8, 9, 10).contains(what) || out(n, 0, 200)) return find(0);
        World t = w.later(n);
        return t.all.get(singer).get(what, t);
    }

    private int till(java.util.function.Predicate<World> p) {
        World t = w.twin();
        for (int days = 0; days <= 400; days++) {
            if (p.test(t)) return days;
            t.aDay();
        }
        return find(3);
    }

    int sings(int singer) {
        return no(singer) ? find(0) : till(t -> t.all.get(singer).sings());
    }

    int together(int a, int b) {
        if (no(a) || no(b) || a == b) return find(0);
        return till(t -> t.all.get(a).sings() && t.all.get(b).sings());
    }

    int rest(int v) { return out(v, 0, 99999) ? find(0) : till(t -> t.still >= v); }

    int when(int singer, int v) {
        return no(singer) || out(v, 0, 9999) ? find(0) : till(t -> t.all.get(singer).sold >= v);
    }

    private World with(int singer, int what, int v) {
        World t = w.twin();
        t.all.get(singer).set(what, v);
        return t;
    }

    private int best(List<Integer> tries, ToIntFunction<Integer> f) {
        int most = tries.stream().mapToInt(f).max().getAsInt();
        return tries.stream().filter(v -> f.applyAsInt(v) == most).findFirst().get();
    }

    private static List<Integer> upTo(int most) {
        List<Integer> row = new ArrayList<>();
        for (int v = 0; v <= most; v++) row.add(v);
        return row;
    }

    int beginFor(int singer, int n) {
        if (no(singer) || out(n, 0, 120)) return find(0);
        return best(upTo(59), v -> with(singer, 1, v).later(n).sum(s -> s.sold));
    }

    int answerFor(int singer, int n) {
        if (no(singer) || out(n, 0, 120)) return find(0);
        List<Integer> tries = upTo(w.all.size() - 1);
        tries.remove(Integer.valueOf(singer));
        tries.add(-1);
        return best(tries, v -> with(singer, 2, v).later(n).sum(s -> s.sold));
    }

    int kindFor(int singer, int n) {
        if (no(singer) || out(n, 0, 120)) return find(0);
        return best(upTo(6), v -> with(singer, 0, v).later(n).all.get(singer).sold);
    }

    int ageFor(int singer, int v) {
        if (no(singer) || out(v, 0, 99)) return find(0);
        int best = -1;
        for (int age = 0; age <= 120; age++) {
            One s = with(singer, 4, age).all.get(singer);
            if (KINDS.get(s.kind).gap(s) <= v) best = age;
        }
        return best < 0 ? find(3) : best;
    }

    int hush(int n) {
        if (out(n, 0, 60)) return find(0);
        for (int many = 0; many <= 8; many++) {
            for (int set = 0; set < 1 << w.all.size(); set++) {
                if (Integer.bitCount(set) != many) continue;
                World t = w.twin();
                for (int i = 0; i < t.all.size(); i++) {
                    t.all.get(i).dead |= (set & 1 << i) != 0;
                }
                if (t.later(n).still >= n) return set;
            }
        }
        return find(3);
    }

    int longest(int n) {
        if (out(n, 0, 200)) return find(0);
        int most = w.still;
        World t = w.twin();
        for (int i = 0; i < n; i++) {
            t.aDay();
            most = Math.max(most, t.still);
        }
        return most;
    }

    private int lacks(int s) { return out(s, 0, 3) ? 0 : sheets[s] == null ? 5 : -1; }

    private int lacks(int s, int singer) {
        return lacks(s) >= 0 ? lacks(s) : no(singer) ? 0 : -1;
    }

    private boolean tells(int s, int singer, World t) {
        for (int i = 1; i < sheets[s].length; i++) {
            int left = t.later(i - 1).all.get(singer).left;
            if (sheets[s][i] != -1 && sheets[s][i] != left) return false;
        }
        return true;
    }

    int fits(int s, int singer) {
        if (lacks(s, singer) >= 0) return find(lacks(s, singer));
        return (int) upTo(59).stream().filter(v -> tells(s, singer, with(singer, 1, v))).count();
    }

    int date(int s, int singer) {
        if (lacks(s, singer) >= 0) return find(lacks(s, singer));
        for (int v = 0; v < 60; v++) {
            if (tells(s, singer, with(singer, 1, v))) return v;
        }
        return find(3);
    }

    int kinds(int s, int singer) {
        if (lacks(s, singer) >= 0) return find(lacks(s, singer));
        return upTo(6).stream().filter(v -> tells(s, singer, with(singer, 0, v)))
            .mapToInt(v -> 1 << v).sum();
    }

    int spring(int n) {
        if (out(n, 1, 20)) return find(0);
        if (w.day + n > 99999) return find(4);
        for (int i = 0; i < n; i++) {
            int who = w.draw() % 8;
            int part = w.draw() % 9 + 1;
            if (!no(who) && !w.all.get(who).dead) {
                w.all.get(who).part = part;
                w.all.get(who).begin();
            }
            w.aDay();
        }
        return w.set(One::sings);
    }

    long odds(int n, int what) {
        if (out(n, 0, 10) || out(what, 0, 1)) return find(0);
        long good = w.all.stream().filter(s -> !s.dead && s.answers == -1).map(s -> s.begins)
            .distinct().count();
        BigInteger above = BigInteger.valueOf(good).pow(n);
        BigInteger below = BigInteger.valueOf(60).pow(n);
        return (what == 0 ? above : below).divide(above.gcd(below)).longValueExact();
    }

    int seed(int v) {
        int was = w.z;
        w.z = v;
        return was;
    }

    int feed(int bytes, int n) {
        if (out(n, 1, 4)) return find(0);
        if (tape.length() + n > 120) return find(1);
        for (int i = n; i > 0; i--) {
            tape.append((char) (bytes >> (i - 1) * 8 & 0xFF));
        }
        return tape.length();
    }

    int wipe() {
        int had = tape.length();
        tape.setLength(0);
        return had;
    }

    /** A token's text and place; the last one is empty. */
    record Token(String text, int place) { }

    private static List<Token> tokens(String text) {
        List<Token> row = new ArrayList<>();
        var m = java.util.regex.Pattern.compile("[a-z]+|[0-9]+|[^ ]", java.util.regex.Pattern.DOTALL)
            .matcher(text);
        while (m.find()) row.add(new Token(m.group(), m.start()));
        row.add(new Token("", text.length()));
        return row;
    }

    private List<Token> tokens;
    private int at;

    private boolean takes(String word) {
        if (!tokens.get(at).text.equals(word)) return false;
        at++;
        return true;
    }

    private int number(IntPredicate isGood) {
        String text = tokens.get(at).text;
        if (!text.matches("[0-9]+")) return -1;
        BigInteger v = new BigInteger(text);
        if (v.bitLength() > 20 || v.intValue() > 999 || !isGood.test(v.intValue())) return -1;
        at++;
        return v.intValue();
    }

    private boolean item(World t) {
        IntPredicate isThere = v -> v < t.all.size();
        if (takes("dead")) {
            int who = number(isThere);
            if (who >= 0) t.all.get(who).dead = true;
            return who >= 0;
        }
        if (takes("sings")) {
            int who = number(isThere);
            int left = who < 0 ? -1 : number(v -> v >= 1 && v <= 99);
            if (left >= 0) t.all.get(who).left = left;
            return left >= 0;
        }
        One s = new One();
        s.kind = WORDS.indexOf(tokens.get(at).text);
        if (s.kind < 0 || t.all.size() == 8) return false;
        at++;
        if (takes("begins") && (s.begins = number(v -> v <= 59)) < 0) return false;
        if (takes("answers") && (s.answers = number(isThere)) < 0) return false;
        if (takes("voice") && (s.voice = number(v -> v <= 99)) < 0) return false;
        if (takes("aged") && (s.age = number(v -> v <= 120)) < 0) return false;
        if (takes("part") && (s.part = number(v -> v >= 1 && v <= 9)) < 0) return false;
        t.all.add(s);
        return true;
    }

    int text() {
        tokens = tokens(tape.toString());
        at = 0;
        tape.setLength(0);
        World t = w.twin();
        int items = 0;
        do {
            if (!item(t)) return -1 - tokens.get(at).place;
            items++;
        } while (takes(";"));
        if (!tokens.get(at).text.isEmpty()) return -1 - tokens.get(at).place;
        w = t;
        return items;
    }

    int hold(int spot, int singer) {
        if (out(spot, 0, 9) || singer != -1 && no(singer)) return find(0);
        w.spots[spot] = singer;
        return 1;
    }

    int as(int spot, int kind) {
        if (out(spot, 0, 9) || out(kind, 0, 6)) return find(0);
        if (w.spots[spot] < 0) return find(5);
        Plain own = KINDS.get(w.all.get(w.spots[spot]).kind);
        return KINDS.get(kind).getClass().isInstance(own) ? w.spots[spot] : find(2);
    }

    int sheet(int s, int bits, int n) {
        if (out(s, 0, 3) || !List.of(0, 8, 16, 32).contains(bits)) return find(0);
        if (n < 0) return find(6);
        if (n > 40) return find(0);
        sheets[s] = bits == 0 ? null : new int[n + 1];
        if (bits == 0) return 0;
        sheets[s][0] = bits;
        return n;
    }

    int write(int s, int i, int v) {
        if (lacks(s) >= 0) return find(lacks(s));
        if (out(i, 0, sheets[s].length - 2)) return find(0);
        int spare = 32 - sheets[s][0];
        sheets[s][i + 1] = v << spare >> spare;
        return 1;
    }

    int copy(int s, int from, int t, int to, int n) {
        if (out(s, 0, 3) || out(t, 0, 3)) return find(0);
        if (sheets[s] == null || sheets[t] == null) return find(5);
        if (sheets[s][0] != sheets[t][0]) return find(2);
        if (from < 0 || to < 0 || n < 0) return find(0);
        if ((long) from + n > sheets[s].length - 1 || (long) to + n > sheets[t].length - 1) return find(0);
        int[] was = sheets[s].clone();
        for (int i = 1; i <= n; i++) sheets[t][to + i] = was[from + i];
        return n;
    }

    int load(int s) {
        if (lacks(s) >= 0) return find(lacks(s));
        int came = 0;
        while (came + 1 < sheets[s].length && !no(came) && !out(sheets[s][came + 1], 0, 59)) {
            w.all.get(came).begins = sheets[s][came + 1];
            came++;
        }
        return came;
    }

    int judge(int s) {
        if (lacks(s) >= 0) return find(lacks(s));
        for (int i = 0; i + 1 < sheets[s].length; i++) {
            if (no(i) || w.all.get(i).sold != sheets[s][i + 1]) return i + 1;
        }
        return 0;
    }

    int image() {
        kept = w.twin();
        return 1;
    }

    int undo() {
        if (kept == null) return find(3);
        w = kept.twin();
        return w.day;
    }

    int tear() {
        int was = kept == null ? 0 : 1;
        kept = null;
        return was;
    }

    int count(int what) {
        return switch (what) {
            case 0 -> w.day;
            case 1 -> w.all.size();
            case 2 -> w.sum(s -> s.sold);
            case 3 -> w.still;
            case 4 -> w.sum(s -> s.dead ? 1 : 0);
            case 5 -> tape.length();
            case 6 -> w.z;
            case 7 -> (int) Arrays.stream(w.spots).filter(v -> v >= 0).count();
            default -> find(0);
        };
    }

    int status(int which) {
        if (out(which, -1, 6)) return find(0);
        return which < 0 ? Arrays.stream(told).sum() : told[which];
    }
}
