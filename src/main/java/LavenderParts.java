/**
 * Singers of lavender round a square: who sings on which day, how long they rest, and what would
 * have to be otherwise. ../shared/DOC.md numbers what each call promises.
 */
public final class LavenderParts {
    private static final int LOW = -1000001;
    private static final int BEYOND = 0;
    private static final int FULL = 1;
    private static final int OTHER_KIND = 2;
    private static final int NONE = 3;
    private static final int STATE = 4;
    private static final int MISSING = 5;
    private static final int SIZE = 6;
    private static final int FINDINGS = 7;
    private static final int FINE = -1;

    private static final int FARTHEST = 400;

    private final Square live = new Square();
    private final Square trial = new Square();
    private final Square kept = new Square();
    private final Reader reader = new Reader();
    private final Sheet[] sheets = new Sheet[Sheet.SHEETS];
    private final int[] findings = new int[FINDINGS];
    private boolean isKept = false;

    public LavenderParts() {
        for (int i = 0; i < sheets.length; i++) {
            sheets[i] = new Sheet();
        }
    }

    // ---- singers

    public int singer(int kind, int date) {
        if (!within(kind, 0, Singer.HIGHEST_KIND) || !within(date, 0, Square.YEAR - 1)) {
            return tell(BEYOND);
        }
        if (live.isFull()) {
            return tell(FULL);
        }
        return live.add(kind, date);
    }

    public int of(int singer, int what) {
        if (!live.has(singer) || !within(what, 0, Singer.WEARS)) {
            return tell(BEYOND);
        }
        return live.look(singer, what);
    }

    public int change(int singer, int what, int v) {
        if (!live.has(singer) || !live.canBe(singer, what, v)) {
            return tell(BEYOND);
        }
        int was = live.look(singer, what);
        live.put(singer, what, v);
        return was;
    }

    public int answerers(int singer) {
        if (!live.has(singer)) {
            return tell(BEYOND);
        }
        return live.answering(singer);
    }

    public int strike(int singer) {
        if (!live.has(singer)) {
            return tell(BEYOND);
        }
        if (live.look(singer, Singer.DEAD) != 0) {
            return tell(STATE);
        }
        live.begin(singer);
        return live.look(singer, Singer.LEFT);
    }

    // ---- days

    public int go(int n) {
        if (!within(n, 1, 60)) {
            return tell(BEYOND);
        }
        if (!live.hasDaysFor(n)) {
            return tell(STATE);
        }
        live.passDays(n);
        return live.singing();
    }

    public int now(int what) {
        switch (what) {
            case 0: return live.day;
            case 1: return live.singing();
            case 2: return live.waiting();
            case 3: return live.still;
            case 4: return live.total(Singer.SOLD);
            case 5: return live.gone();
            case 6: return live.total(Singer.VOICE);
            case 7: return live.today();
            default: return tell(BEYOND);
        }
    }

    // ---- what will be (nothing changes)

    public int ahead(int singer, int what, int n) {
        if (!live.has(singer) || !isForetold(what) || !within(n, 0, 200)) {
            return tell(BEYOND);
        }
        trial.become(live);
        trial.passDays(n);
        return trial.look(singer, what);
    }

    public int sings(int singer) {
        if (!live.has(singer)) {
            return tell(BEYOND);
        }
        return daysTillAllSing(1 << singer);
    }

    public int together(int a, int b) {
        if (!live.has(a) || !live.has(b) || a == b) {
            return tell(BEYOND);
        }
        return daysTillAllSing(1 << a | 1 << b);
    }

    public int rest(int v) {
        if (!within(v, 0, Square.MOST_DAYS)) {
            return tell(BEYOND);
        }
        trial.become(live);
        for (int days = 0; days <= FARTHEST; days++) {
            if (trial.still >= v) {
                return days;
            }
            trial.passDays(1);
        }
        return tell(NONE);
    }

    public int when(int singer, int v) {
        if (!live.has(singer) || !within(v, 0, Singer.MOST_SOLD)) {
            return tell(BEYOND);
        }
        trial.become(live);
        for (int days = 0; days <= FARTHEST; days++) {
            if (trial.look(singer, Singer.SOLD) >= v) {
                return days;
            }
            trial.passDays(1);
        }
        return tell(NONE);
    }

    // ---- how to sing

    public int beginFor(int singer, int n) {
        if (!live.has(singer) || !within(n, 0, 120)) {
            return tell(BEYOND);
        }
        int best = 0;
        int most = -1;
        for (int v = 0; v < Square.YEAR; v++) {
            tryOut(singer, Singer.BEGINS, v, n);
            int sold = trial.total(Singer.SOLD);
            if (sold > most) {
                most = sold;
                best = v;
            }
        }
        return best;
    }

    public int answerFor(int singer, int n) {
        if (!live.has(singer) || !within(n, 0, 120)) {
            return tell(BEYOND);
        }
        tryOut(singer, Singer.ANSWERS, Singer.NOBODY, n);
        int best = Singer.NOBODY;
        int most = trial.total(Singer.SOLD);
        // Going down, and taking what is as good, lets the least number win, and nobody only alone.
        for (int v = live.size - 1; v >= 0; v--) {
            if (v != singer) {
                tryOut(singer, Singer.ANSWERS, v, n);
                int sold = trial.total(Singer.SOLD);
                if (sold >= most) {
                    most = sold;
                    best = v;
                }
            }
        }
        return best;
    }

    public int kindFor(int singer, int n) {
        if (!live.has(singer) || !within(n, 0, 120)) {
            return tell(BEYOND);
        }
        int best = 0;
        int most = -1;
        for (int v = 0; v <= Singer.HIGHEST_KIND; v++) {
            tryOut(singer, Singer.KIND, v, n);
            int sold = trial.look(singer, Singer.SOLD);
            if (sold > most) {
                most = sold;
                best = v;
            }
        }
        return best;
    }

    public int ageFor(int singer, int v) {
        if (!live.has(singer) || !within(v, 0, 99)) {
            return tell(BEYOND);
        }
        trial.become(live);
        for (int age = Singer.OLDEST; age >= 0; age--) {
            trial.put(singer, Singer.AGE, age);
            if (trial.look(singer, Singer.GAP) <= v) {
                return age;
            }
        }
        return tell(NONE);
    }

    public int hush(int n) {
        if (!within(n, 0, 60)) {
            return tell(BEYOND);
        }
        int best = -1;
        int fewest = Square.SINGERS + 1;
        for (int set = 0; set < 1 << live.size; set++) {
            int many = Integer.bitCount(set);
            if (many < fewest && isStillWithout(set, n)) {
                fewest = many;
                best = set;
            }
        }
        return best < 0 ? tell(NONE) : best;
    }

    public int longest(int n) {
        if (!within(n, 0, 200)) {
            return tell(BEYOND);
        }
        trial.become(live);
        int most = trial.still;
        for (int i = 0; i < n; i++) {
            trial.passDays(1);
            most = Math.max(most, trial.still);
        }
        return most;
    }

    // ---- told singing

    public int fits(int s, int singer) {
        int fault = faultOfTold(s, singer);
        if (fault != FINE) {
            return tell(fault);
        }
        int many = 0;
        for (int v = 0; v < Square.YEAR; v++) {
            if (isAsTold(sheets[s], singer, Singer.BEGINS, v)) {
                many++;
            }
        }
        return many;
    }

    public int date(int s, int singer) {
        int fault = faultOfTold(s, singer);
        if (fault != FINE) {
            return tell(fault);
        }
        for (int v = 0; v < Square.YEAR; v++) {
            if (isAsTold(sheets[s], singer, Singer.BEGINS, v)) {
                return v;
            }
        }
        return tell(NONE);
    }

    public int kinds(int s, int singer) {
        int fault = faultOfTold(s, singer);
        if (fault != FINE) {
            return tell(fault);
        }
        int set = 0;
        for (int v = 0; v <= Singer.HIGHEST_KIND; v++) {
            if (isAsTold(sheets[s], singer, Singer.KIND, v)) {
                set |= 1 << v;
            }
        }
        return set;
    }

    // ---- springs

    public int spring(int n) {
        if (!within(n, 1, 20)) {
            return tell(BEYOND);
        }
        if (!live.hasDaysFor(n)) {
            return tell(STATE);
        }
        for (int i = 0; i < n; i++) {
            int who = live.draw() % 8;
            int part = 1 + live.draw() % 9;
            if (live.has(who) && live.look(who, Singer.DEAD) == 0) {
                live.put(who, Singer.PART, part);
                live.begin(who);
            }
            live.passDays(1);
        }
        return live.singing();
    }

    public long odds(int n, int what) {
        if (!within(n, 0, 10) || !within(what, 0, 1)) {
            return tell(BEYOND);
        }
        int good = live.datesOfBeginning();
        int shared = greatestSharedWithYear(good);
        int one = what == 0 ? good : Square.YEAR;
        long all = 1;
        for (int i = 0; i < n; i++) {
            all *= one / shared;
        }
        return all;
    }

    public int seed(int v) {
        int was = live.z;
        live.z = v;
        return was;
    }

    // ---- texts

    public int feed(int bytes, int n) {
        if (!within(n, 1, 4)) {
            return tell(BEYOND);
        }
        if (!reader.tape.hasRoomFor(n)) {
            return tell(FULL);
        }
        for (int i = n - 1; i >= 0; i--) {
            reader.tape.add(bytes >>> 8 * i & 255);
        }
        return reader.tape.length;
    }

    public int wipe() {
        int had = reader.tape.length;
        reader.tape.length = 0;
        return had;
    }

    public int text() {
        // The reader writes on the trial square, so a fault leaves the live one as it was.
        trial.become(live);
        int answer = reader.readAll(trial);
        reader.tape.length = 0;
        if (answer >= 0) {
            live.become(trial);
        }
        return answer;
    }

    // ---- spots, sheets

    public int hold(int spot, int singer) {
        if (!within(spot, 0, Square.SPOTS - 1) || singer != Square.EMPTY && !live.has(singer)) {
            return tell(BEYOND);
        }
        live.spots[spot] = singer;
        return 1;
    }

    public int as(int spot, int kind) {
        if (!within(spot, 0, Square.SPOTS - 1) || !within(kind, 0, Singer.HIGHEST_KIND)) {
            return tell(BEYOND);
        }
        int held = live.spots[spot];
        if (!live.has(held)) {
            return tell(MISSING);
        }
        return Singer.isUnder(live.look(held, Singer.KIND), kind) ? held : tell(OTHER_KIND);
    }

    public int sheet(int s, int bits, int n) {
        if (!isSheet(s) || bits != 0 && bits != 8 && bits != 16 && bits != 32) {
            return tell(BEYOND);
        }
        if (n < 0) {
            return tell(SIZE);
        }
        if (n > Sheet.MOST) {
            return tell(BEYOND);
        }
        sheets[s].lay(bits, n);
        return sheets[s].size;
    }

    public int write(int s, int i, int v) {
        int fault = faultOfSheet(s);
        if (fault != FINE) {
            return tell(fault);
        }
        if (!within(i, 0, sheets[s].size - 1)) {
            return tell(BEYOND);
        }
        sheets[s].put(i, v);
        return 1;
    }

    public int copy(int s, int from, int t, int to, int n) {
        if (!isSheet(s) || !isSheet(t)) {
            return tell(BEYOND);
        }
        Sheet source = sheets[s];
        Sheet target = sheets[t];
        if (source.bits == 0 || target.bits == 0) {
            return tell(MISSING);
        }
        if (source.bits != target.bits) {
            return tell(OTHER_KIND);
        }
        if (!source.hasRun(from, n) || !target.hasRun(to, n)) {
            return tell(BEYOND);
        }
        System.arraycopy(source.numbers, from, target.numbers, to, n);
        return n;
    }

    public int load(int s) {
        int fault = faultOfSheet(s);
        if (fault != FINE) {
            return tell(fault);
        }
        int came = 0;
        for (int i = 0; i < sheets[s].size; i++) {
            int v = sheets[s].numbers[i];
            if (!live.has(i) || !within(v, 0, Square.YEAR - 1)) {
                break;
            }
            live.put(i, Singer.BEGINS, v);
            came++;
        }
        return came;
    }

    public int judge(int s) {
        int fault = faultOfSheet(s);
        if (fault != FINE) {
            return tell(fault);
        }
        for (int i = 0; i < sheets[s].size; i++) {
            if (!live.has(i) || live.look(i, Singer.SOLD) != sheets[s].numbers[i]) {
                return 1 + i;
            }
        }
        return 0;
    }

    // ---- images

    public int image() {
        kept.become(live);
        isKept = true;
        return 1;
    }

    public int undo() {
        if (!isKept) {
            return tell(NONE);
        }
        live.become(kept);
        return live.day;
    }

    public int tear() {
        int was = isKept ? 1 : 0;
        isKept = false;
        return was;
    }

    public int count(int what) {
        switch (what) {
            case 0: return live.day;
            case 1: return live.size;
            case 2: return live.total(Singer.SOLD);
            case 3: return live.still;
            case 4: return Integer.bitCount(live.gone());
            case 5: return reader.tape.length;
            case 6: return live.z;
            case 7: return live.heldSpots();
            default: return tell(BEYOND);
        }
    }

    public int status(int which) {
        if (!within(which, -1, FINDINGS - 1)) {
            return tell(BEYOND);
        }
        if (which >= 0) {
            return findings[which];
        }
        int all = 0;
        for (int i = 0; i < FINDINGS; i++) {
            all += findings[i];
        }
        return all;
    }

    // ---- helpers

    private int tell(int finding) {
        findings[finding]++;
        return LOW - finding;
    }

    private static boolean within(int v, int least, int most) {
        return v >= least && v <= most;
    }

    private static boolean isForetold(int what) {
        return what == Singer.VOICE || what == Singer.AGE || within(what, Singer.LEFT, Singer.GAP);
    }

    private int daysTillAllSing(int set) {
        trial.become(live);
        for (int days = 0; days <= FARTHEST; days++) {
            if ((trial.singing() & set) == set) {
                return days;
            }
            trial.passDays(1);
        }
        return tell(NONE);
    }

    private void tryOut(int singer, int what, int v, int n) {
        trial.become(live);
        trial.put(singer, what, v);
        trial.passDays(n);
    }

    private boolean isStillWithout(int set, int n) {
        trial.become(live);
        trial.kill(set);
        for (int i = 0; i < n; i++) {
            trial.passDays(1);
            // Whoever sings on one of n days leaves fewer than n still ones.
            if (trial.still == 0) {
                return false;
            }
        }
        return trial.still >= n;
    }

    private boolean isAsTold(Sheet told, int singer, int what, int v) {
        trial.become(live);
        trial.put(singer, what, v);
        for (int i = 0; i < told.size; i++) {
            if (i > 0) {
                trial.passDays(1);
            }
            int left = told.numbers[i];
            if (left != Sheet.ANY && left != trial.look(singer, Singer.LEFT)) {
                return false;
            }
        }
        return true;
    }

    private static boolean isSheet(int s) {
        return within(s, 0, Sheet.SHEETS - 1);
    }

    private int faultOfSheet(int s) {
        if (!isSheet(s)) {
            return BEYOND;
        }
        return sheets[s].bits == 0 ? MISSING : FINE;
    }

    private int faultOfTold(int s, int singer) {
        int fault = faultOfSheet(s);
        if (fault != FINE) {
            return fault;
        }
        return live.has(singer) ? FINE : BEYOND;
    }

    private static int greatestSharedWithYear(int v) {
        for (int divisor = Square.YEAR; divisor > 1; divisor--) {
            if (v % divisor == 0 && Square.YEAR % divisor == 0) {
                return divisor;
            }
        }
        return 1;
    }

    /** One singer: what change() can set lies in a row by its what; the rest follows from it. */
    private static final class Singer {
        static final int KIND = 0;
        static final int BEGINS = 1;
        static final int ANSWERS = 2;
        static final int VOICE = 3;
        static final int AGE = 4;
        static final int PART = 5;
        static final int DEAD = 6;
        static final int LEFT = 7;
        static final int WAITS = 8;
        static final int SOLD = 9;
        static final int GAP = 10;
        static final int LASTS = 11;
        static final int SELLS = 12;
        static final int WEARS = 13;

        static final int SISTER = 1;
        static final int CABMAN = 2;
        static final int ELDER = 3;
        static final int LAST = 4;
        static final int CHILD = 5;
        static final int CAROLLER = 6;
        static final int HIGHEST_KIND = 6;

        static final int NOBODY = -1;
        static final int LOUDEST = 99;
        static final int OLDEST = 120;
        static final int LONGEST_PART = 9;
        static final int MOST_LEFT = 99;
        static final int MOST_WAIT = 99;
        static final int MOST_SOLD = 9999;

        private static final int[] LEAST = {0, 0, NOBODY, 0, 0, 1, 0, 0, 0, 0};
        private static final int[] MOST = {
            HIGHEST_KIND, 59, 7, LOUDEST, OLDEST, LONGEST_PART, 1, MOST_LEFT, MOST_WAIT, MOST_SOLD
        };
        private static final int[] AT_FIRST = {0, 0, NOBODY, 60, 30, 3, 0, 0, 0, 0};
        private static final int[] OVER = {-1, 0, 0, 1, 3, 0, 2};

        final int[] own = new int[AT_FIRST.length];
        boolean hasEnded = false;

        void reset() {
            System.arraycopy(AT_FIRST, 0, own, 0, own.length);
        }

        void become(Singer other) {
            System.arraycopy(other.own, 0, own, 0, own.length);
        }

        static boolean isInRange(int what, int v) {
            return within(what, 0, SOLD) && within(v, LEAST[what], MOST[what]);
        }

        static boolean isUnder(int kind, int upper) {
            int k = kind;
            for (int i = 0; i <= HIGHEST_KIND && within(k, 0, HIGHEST_KIND); i++) {
                if (k == upper) {
                    return true;
                }
                k = OVER[k];
            }
            return false;
        }

        boolean isSinging() {
            return own[LEFT] > 0 && own[DEAD] == 0;
        }

        void begin() {
            own[LEFT] = Math.min(lasting(), MOST_LEFT);
            own[WAITS] = 0;
        }

        int gap() {
            int sister = 1 + own[AGE] / 10;
            switch (own[KIND]) {
                case SISTER: return sister;
                case ELDER: return 2 * sister;
                case LAST: return 2 * sister + 5;
                case CABMAN: return 3;
                case CAROLLER: return own[VOICE] >= 50 ? 2 : 3;
                default: return 1;
            }
        }

        int lasting() {
            int sister = own[PART] + 1;
            int cabman = own[PART] / 2 + 1;
            switch (own[KIND]) {
                case SISTER: return sister;
                case ELDER:
                case LAST: return sister + own[AGE] / 20;
                case CABMAN: return cabman;
                case CAROLLER: return cabman + 2;
                case CHILD: return 1;
                default: return own[PART];
            }
        }

        int selling(boolean isAnsweredAlive, boolean isAlone) {
            int plain = own[VOICE] / 10;
            int sister = isAnsweredAlive ? plain + 1 : plain;
            switch (own[KIND]) {
                case SISTER:
                case ELDER: return sister;
                case LAST: return isAlone ? 16 : sister;
                case CABMAN: return 1;
                case CAROLLER: return 3;
                case CHILD: return plain + 3;
                default: return plain;
            }
        }

        int wearing() {
            switch (own[KIND]) {
                case ELDER: return 4;
                case LAST: return 3;
                case CABMAN: return 0;
                case CAROLLER: return 1;
                case CHILD: return own[AGE] >= 15 ? 0 : -5;
                default: return 2;
            }
        }

        void growOlder() {
            // What a child wears hangs on her age, so the voice goes first.
            own[VOICE] = Math.max(0, Math.min(own[VOICE] - wearing(), LOUDEST));
            own[AGE] = Math.min(own[AGE] + 1, OLDEST);
        }
    }

    /** All that an image keeps: the singers, the days, the spots and z. */
    private static final class Square {
        static final int SINGERS = 8;
        static final int SPOTS = 10;
        static final int EMPTY = -1;
        static final int YEAR = 60;
        static final int MOST_DAYS = 99999;

        private final Singer[] row = new Singer[SINGERS];
        final int[] spots = new int[SPOTS];
        int size = 0;
        int day = 0;
        int still = 0;
        int z = 1;

        Square() {
            for (int i = 0; i < SINGERS; i++) {
                row[i] = new Singer();
            }
            for (int i = 0; i < SPOTS; i++) {
                spots[i] = EMPTY;
            }
        }

        void become(Square other) {
            size = other.size;
            day = other.day;
            still = other.still;
            z = other.z;
            for (int i = 0; i < size; i++) {
                row[i].become(other.row[i]);
            }
            System.arraycopy(other.spots, 0, spots, 0, SPOTS);
        }

        boolean has(int singer) {
            return singer >= 0 && singer < size;
        }

        boolean isFull() {
            return size >= SINGERS;
        }

        int add(int kind, int begins) {
            if (isFull()) {
                return Singer.NOBODY;
            }
            row[size].reset();
            row[size].own[Singer.KIND] = kind;
            row[size].own[Singer.BEGINS] = begins;
            size++;
            return size - 1;
        }

        int look(int singer, int what) {
            if (!has(singer)) {
                return 0;
            }
            switch (what) {
                case Singer.GAP: return row[singer].gap();
                case Singer.LASTS: return row[singer].lasting();
                case Singer.SELLS: return selling(singer, singing());
                case Singer.WEARS: return row[singer].wearing();
                default: return within(what, 0, Singer.SOLD) ? row[singer].own[what] : 0;
            }
        }

        boolean canBe(int singer, int what, int v) {
            if (!Singer.isInRange(what, v)) {
                return false;
            }
            return what != Singer.ANSWERS || v == Singer.NOBODY || has(v) && v != singer;
        }

        void put(int singer, int what, int v) {
            if (has(singer) && within(what, 0, Singer.SOLD)) {
                row[singer].own[what] = v;
            }
        }

        void begin(int singer) {
            if (has(singer)) {
                row[singer].begin();
            }
        }

        void kill(int set) {
            for (int i = 0; i < size; i++) {
                if ((set >> i & 1) != 0) {
                    row[i].own[Singer.DEAD] = 1;
                }
            }
        }

        int singing() {
            int set = 0;
            for (int i = 0; i < size; i++) {
                if (row[i].isSinging()) {
                    set |= 1 << i;
                }
            }
            return set;
        }

        int waiting() {
            int set = 0;
            for (int i = 0; i < size; i++) {
                if (row[i].own[Singer.WAITS] > 0 && row[i].own[Singer.DEAD] == 0) {
                    set |= 1 << i;
                }
            }
            return set;
        }

        int gone() {
            return having(Singer.DEAD, 1);
        }

        int answering(int singer) {
            return having(Singer.ANSWERS, singer);
        }

        private int having(int what, int v) {
            int set = 0;
            for (int i = 0; i < size; i++) {
                if (look(i, what) == v) {
                    set |= 1 << i;
                }
            }
            return set;
        }

        int total(int what) {
            int all = 0;
            for (int i = 0; i < size; i++) {
                all += look(i, what);
            }
            return all;
        }

        int heldSpots() {
            int held = 0;
            for (int i = 0; i < SPOTS; i++) {
                if (spots[i] != EMPTY) {
                    held++;
                }
            }
            return held;
        }

        int datesOfBeginning() {
            long dates = 0;
            for (int i = 0; i < size; i++) {
                int[] own = row[i].own;
                if (own[Singer.DEAD] == 0 && own[Singer.ANSWERS] == Singer.NOBODY) {
                    dates |= 1L << own[Singer.BEGINS];
                }
            }
            return Long.bitCount(dates);
        }

        int today() {
            return day % YEAR;
        }

        boolean hasDaysFor(int n) {
            return day <= MOST_DAYS - n;
        }

        int draw() {
            z = z * 1103515245 + 12345;
            return z >>> 8;
        }

        void passDays(int n) {
            for (int i = 0; i < n; i++) {
                singOn();
                comeIn();
                sell();
                if (today() == YEAR - 1) {
                    growOlder();
                }
                day = Math.min(day + 1, MOST_DAYS);
            }
        }

        private void singOn() {
            for (int i = 0; i < size; i++) {
                Singer s = row[i];
                s.hasEnded = false;
                if (s.isSinging()) {
                    s.own[Singer.LEFT]--;
                    s.hasEnded = s.own[Singer.LEFT] == 0;
                }
            }
        }

        private void comeIn() {
            int date = today();
            for (int i = 0; i < size; i++) {
                Singer s = row[i];
                if (s.own[Singer.DEAD] == 0 && s.own[Singer.LEFT] == 0 && !s.hasEnded) {
                    listen(s, date);
                }
            }
        }

        private void listen(Singer s, int date) {
            int answered = s.own[Singer.ANSWERS];
            if (s.own[Singer.WAITS] > 0) {
                s.own[Singer.WAITS]--;
                if (s.own[Singer.WAITS] == 0) {
                    s.begin();
                }
            } else if (has(answered)) {
                if (row[answered].hasEnded) {
                    s.own[Singer.WAITS] = Math.min(s.gap(), Singer.MOST_WAIT);
                }
            } else if (s.own[Singer.BEGINS] == date) {
                s.begin();
            }
        }

        private void sell() {
            int set = singing();
            for (int i = 0; i < size; i++) {
                if ((set >> i & 1) != 0) {
                    int sold = row[i].own[Singer.SOLD] + selling(i, set);
                    row[i].own[Singer.SOLD] = Math.min(sold, Singer.MOST_SOLD);
                }
            }
            still = set != 0 ? 0 : Math.min(still + 1, MOST_DAYS);
        }

        private int selling(int singer, int singing) {
            int answered = row[singer].own[Singer.ANSWERS];
            boolean isAnsweredAlive = has(answered) && row[answered].own[Singer.DEAD] == 0;
            return row[singer].selling(isAnsweredAlive, (singing & ~(1 << singer)) == 0);
        }

        private void growOlder() {
            for (int i = 0; i < size; i++) {
                if (row[i].own[Singer.DEAD] == 0) {
                    row[i].growOlder();
                }
            }
        }
    }

    /** A row of numbers, each of as many bits, with a sign; of 0 bits while it is missing. */
    private static final class Sheet {
        static final int SHEETS = 4;
        static final int MOST = 40;
        static final int ANY = -1;

        final int[] numbers = new int[MOST];
        int bits = 0;
        int size = 0;

        void lay(int newBits, int n) {
            bits = newBits;
            size = newBits == 0 ? 0 : n;
            for (int i = 0; i < MOST; i++) {
                numbers[i] = 0;
            }
        }

        void put(int i, int v) {
            if (within(i, 0, size - 1)) {
                numbers[i] = bits == 8 ? (byte) v : bits == 16 ? (short) v : v;
            }
        }

        boolean hasRun(int from, int n) {
            return from >= 0 && n >= 0 && from <= size && n <= size - from;
        }
    }

    /** The bytes that were fed, and the token at which their reader stands. */
    private static final class Tape {
        static final int MOST = 120;

        static final int END = 0;
        static final int WORD = 1;
        static final int NUMBER = 2;
        static final int SIGN = 3;
        static final int STRANGE = 4;

        static final int MOST_NUMBER = 999;

        private final int[] bytes = new int[MOST];
        int length = 0;
        int token = END;
        int start = 0;
        int value = 0;
        private int stop = 0;

        boolean hasRoomFor(int n) {
            return length + n <= MOST;
        }

        void add(int b) {
            if (hasRoomFor(1)) {
                bytes[length] = b;
                length++;
            }
        }

        void rewind() {
            stop = 0;
            step();
        }

        void step() {
            start = stop;
            while (start < length && bytes[start] == ' ') {
                start++;
            }
            token = tokenWith(start);
            stop = token == END ? start : start + 1;
            if (token == WORD || token == NUMBER) {
                while (stop < length && tokenWith(stop) == token) {
                    stop++;
                }
            }
            value = token == NUMBER ? numberOfDigits() : 0;
        }

        private int numberOfDigits() {
            int v = 0;
            for (int i = start; i < stop; i++) {
                // One above the most stands for all that is too much, so no digits run over.
                v = Math.min(v * 10 + bytes[i] - '0', MOST_NUMBER + 1);
            }
            return v;
        }

        private int tokenWith(int place) {
            if (place < 0 || place >= length) {
                return END;
            }
            int b = bytes[place];
            if (b >= 'a' && b <= 'z') {
                return WORD;
            }
            if (b >= '0' && b <= '9') {
                return NUMBER;
            }
            return b == ';' ? SIGN : STRANGE;
        }

        boolean isAt(String word) {
            if (token != WORD || stop - start != word.length()) {
                return false;
            }
            for (int i = 0; i < word.length(); i++) {
                if (bytes[start + i] != word.charAt(i)) {
                    return false;
                }
            }
            return true;
        }
    }

    /**
     * Reads the tape onto a square. Each read answers whether all could stand there; if not, the
     * tape still stands at the token that couldn't.
     */
    private static final class Reader {
        final Tape tape = new Tape();

        int readAll(Square square) {
            tape.rewind();
            for (int items = 1; items <= Tape.MOST; items++) {
                if (!readItem(square)) {
                    break;
                }
                if (tape.token == Tape.END) {
                    return items;
                }
                if (tape.token != Tape.SIGN) {
                    break;
                }
                tape.step();
            }
            return -1 - tape.start;
        }

        private boolean readItem(Square square) {
            if (tape.isAt("dead")) {
                return readDead(square);
            }
            if (tape.isAt("sings")) {
                return readSings(square);
            }
            int kind = kindOfWord();
            if (kind < 0 || square.isFull()) {
                return false;
            }
            tape.step();
            int who = square.add(kind, 0);
            return readOwn(square, "begins", who, Singer.BEGINS, 0, Square.YEAR - 1)
                && readOwn(square, "answers", who, Singer.ANSWERS, 0, who - 1)
                && readOwn(square, "voice", who, Singer.VOICE, 0, Singer.LOUDEST)
                && readOwn(square, "aged", who, Singer.AGE, 0, Singer.OLDEST)
                && readOwn(square, "part", who, Singer.PART, 1, Singer.LONGEST_PART);
        }

        private boolean readDead(Square square) {
            tape.step();
            int who = tape.value;
            if (!readNumber(0, square.size - 1)) {
                return false;
            }
            square.put(who, Singer.DEAD, 1);
            return true;
        }

        private boolean readSings(Square square) {
            tape.step();
            int who = tape.value;
            if (!readNumber(0, square.size - 1)) {
                return false;
            }
            int left = tape.value;
            if (!readNumber(1, Singer.MOST_LEFT)) {
                return false;
            }
            square.put(who, Singer.LEFT, left);
            return true;
        }

        private boolean readOwn(
            Square square, String word, int who, int what, int least, int most) {
            if (!tape.isAt(word)) {
                return true;
            }
            tape.step();
            int v = tape.value;
            if (!readNumber(least, most)) {
                return false;
            }
            square.put(who, what, v);
            return true;
        }

        private boolean readNumber(int least, int most) {
            if (tape.token != Tape.NUMBER || !within(tape.value, least, most)) {
                return false;
            }
            tape.step();
            return true;
        }

        private int kindOfWord() {
            for (int kind = 0; kind <= Singer.HIGHEST_KIND; kind++) {
                if (tape.isAt(wordOf(kind))) {
                    return kind;
                }
            }
            return -1;
        }

        private static String wordOf(int kind) {
            switch (kind) {
                case 0: return "singer";
                case Singer.SISTER: return "sister";
                case Singer.CABMAN: return "cabman";
                case Singer.ELDER: return "elder";
                case Singer.LAST: return "last";
                case Singer.CHILD: return "child";
                default: return "caroller";
            }
        }
    }
}
