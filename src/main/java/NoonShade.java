/** Shade milked at noon on a white island; README.md says how it is used. */
public final class NoonShade {
    public static final int NONE = -1, BAD = -2, NO = -3, FULL = -4;

    private static final int NOT_SO_MANY = -5;
    // round and two answer BAD with this, since smaller numbers mean other things there
    private static final int BAD_TEN = -10;

    private static final int CASTERS = 7;
    private static final int JARS = 4;
    private static final int KINDS = 6;
    private static final int TASTES = 4;
    private static final int MIXED = 4;
    private static final int TALLEST = 9;
    private static final int MOST_COOL = 60;
    private static final int MOST_SOLD = 9999;
    private static final int LAST_HOUR = 9999;
    private static final int DAY = 24;
    private static final int MOST_AHEAD = 60;
    private static final int IMAGES = 2;

    private static final int HOW_MUCH = -2;
    private static final int ABOUT_CASTERS = 0;
    private static final int ABOUT_JARS = 1;

    private final Isle now = new Isle();
    // read and noons work on a copy, so that what fails or is only asked changes nothing
    private final Isle draft = new Isle();
    private final Isle[] images = {new Isle(), new Isle()};
    private final boolean[] imageKept = new boolean[IMAGES];
    private final Text text = new Text();
    private final Plan plan = new Plan();
    private final Guess guess = new Guess();
    private long above = 0;
    private long below = 1;
    private int bads;
    private int noes;
    private int fulls;

    public NoonShade() {
    }

    // ---- an island

    public int island(int t) {
        if (!within(t, 0, 99)) {
            return refused(BAD);
        }
        int before = now.casters;
        now.begin(t);
        return before;
    }

    public int caster(int kind, int h, int taste) {
        if (!within(kind, 0, KINDS - 1) || !within(h, 1, TALLEST) || !within(taste, 0, TASTES - 1)) {
            return refused(BAD);
        }
        if (now.casters >= CASTERS) {
            return refused(FULL);
        }
        now.past.empty();
        return now.addCaster(kind, h, taste);
    }

    public int jar(int kind) {
        if (!within(kind, 0, KINDS - 1)) {
            return refused(BAD);
        }
        if (now.jars >= JARS) {
            return refused(FULL);
        }
        now.past.empty();
        return now.addJar(kind);
    }

    public int type(int c) {
        if (!within(c, 0, 127)) {
            return refused(BAD);
        }
        if (text.isFull()) {
            return refused(FULL);
        }
        return text.add(c);
    }

    public int clear() {
        return text.empty();
    }

    public int read() {
        int answer = text.tell(draft);
        if (answer > 0) {
            now.become(draft);
        }
        return answer;
    }

    // ---- ladles

    public int ladle(int i, int j) {
        if (!now.hasCaster(i) || !now.hasJar(j)) {
            return refused(BAD);
        }
        if (now.isMilked(i)) {
            return refused(NO);
        }
        now.past.remember(now);
        return now.draw(i, j);
    }

    public int pours(int j, int k) {
        if (!now.hasJar(j) || !now.hasJar(k) || j == k) {
            return refused(BAD);
        }
        if (now.cool[j] == 0) {
            return refused(NO);
        }
        now.past.remember(now);
        return now.pour(j, k);
    }

    public int sells(int j) {
        if (!now.hasJar(j)) {
            return refused(BAD);
        }
        if (now.cool[j] == 0) {
            return refused(NO);
        }
        now.past.remember(now);
        return now.sell(j);
    }

    public int hours(int n) {
        if (!within(n, 1, MOST_AHEAD)) {
            return refused(BAD);
        }
        // where no hour goes by there is none that may be undone
        if (now.hour < LAST_HOUR) {
            now.past.remember(now);
            now.passHours(n);
        }
        return now.hour;
    }

    public int undo() {
        if (!now.past.bringBack(now)) {
            return refused(NO);
        }
        return now.hour;
    }

    public int of(int i, int what) {
        if (!now.hasCaster(i)) {
            return refused(BAD);
        }
        switch (what) {
            case 0:
                return now.casterKind[i];
            case 1:
                return now.height[i];
            case 2:
                return now.casterTaste[i];
            case 3:
                return now.isMilked(i) ? 1 : 0;
            case 4:
                return now.givenBehind(i, 0);
            default:
                return refused(BAD);
        }
    }

    public int about(int j, int what) {
        if (!now.hasJar(j)) {
            return refused(BAD);
        }
        switch (what) {
            case 0:
                return now.jarKind[j];
            case 1:
                return now.cool[j];
            case 2:
                return now.jarTaste[j];
            case 3:
                return now.cool[j] - now.coolBehind(j, 1);
            default:
                return refused(BAD);
        }
    }

    // ---- how much

    public int gives(int i, int m) {
        if (!now.hasCaster(i) || !within(m, 0, MOST_AHEAD)) {
            return refused(BAD);
        }
        return now.givenBehind(i, m);
    }

    public int keeps(int j, int m) {
        if (!now.hasJar(j) || !within(m, 0, MOST_AHEAD)) {
            return refused(BAD);
        }
        return now.coolBehind(j, m);
    }

    public int when(int i) {
        if (!now.hasCaster(i)) {
            return refused(BAD);
        }
        int best = 0;
        for (int m = 1; m < DAY; m++) {
            if (now.givenBehind(i, m) > now.givenBehind(i, best)) {
                best = m;
            }
        }
        return best;
    }

    public int gone(int j) {
        if (!now.hasJar(j)) {
            return refused(BAD);
        }
        int c = now.cool[j];
        for (int m = 0; m <= MOST_AHEAD; m++) {
            if (c == 0) {
                return m;
            }
            c = JarKinds.kept(now.jarKind[j], c, now.hour + m);
        }
        return NONE;
    }

    public int round(int j, int n, int k) {
        if (!now.hasJar(j) || !within(n, 1, Plan.MOST_STEPS) || (k < 0 && k != HOW_MUCH)) {
            refused(BAD);
            return BAD_TEN;
        }
        if (k >= n) {
            return NOT_SO_MANY;
        }
        plan.make(now, j, n);
        return k == HOW_MUCH ? plan.best : plan.row[k];
    }

    public int few(int j, int taste, int x, int what) {
        if (!now.hasJar(j) || !within(taste, 0, TASTES - 1) || !within(x, 1, MOST_COOL) || !within(what, 0, 1)) {
            return refused(BAD);
        }
        int bits = fewestLadles(j, taste, x);
        if (bits == NONE) {
            return NONE;
        }
        return what == 0 ? Integer.bitCount(bits) : bits;
    }

    public int into(int j, int m, int what) {
        if (!now.hasJar(j) || !within(m, 1, 30) || !within(what, 0, 1)) {
            return refused(BAD);
        }
        if (now.cool[j] == 0) {
            return NONE;
        }
        int best = NONE;
        int most = NONE;
        for (int k = 0; k < now.jars; k++) {
            int together = k == j ? NONE : pouredBehind(j, k, m);
            if (together > most) {
                best = k;
                most = together;
            }
        }
        return what == 0 ? best : most;
    }

    // ---- what it is

    public int note(int i, int h, int t, int x) {
        if (!now.hasCaster(i) || !within(h, 1, TALLEST) || !within(t, 0, DAY - 1) || !within(x, 0, 40)) {
            return refused(BAD);
        }
        if (now.notes.isFull()) {
            return refused(FULL);
        }
        return now.notes.add(i, h, t, x);
    }

    public int mark(int j, int c, int t, int x) {
        if (!now.hasJar(j) || !within(c, 0, MOST_COOL) || !within(t, 0, DAY - 1) || !within(x, 0, MOST_COOL)) {
            return refused(BAD);
        }
        if (now.marks.isFull()) {
            return refused(FULL);
        }
        return now.marks.add(j, c, t, x);
    }

    public int forget(int what) {
        switch (what) {
            case 0:
                return now.notes.empty();
            case 1:
                return now.marks.empty();
            default:
                return refused(BAD);
        }
    }

    public int is(int i) {
        if (!now.hasCaster(i)) {
            return refused(BAD);
        }
        return guess.fitting(ABOUT_CASTERS, now.notes, i);
    }

    public int look(int i) {
        if (!now.hasCaster(i)) {
            return refused(BAD);
        }
        int bits = guess.fitting(ABOUT_CASTERS, now.notes, i);
        int found = guess.tellingMost(ABOUT_CASTERS, bits, now.height[i], now.height[i]);
        return found == NONE ? NONE : found % 100;
    }

    public int kinds(int j) {
        if (!now.hasJar(j)) {
            return refused(BAD);
        }
        return guess.fitting(ABOUT_JARS, now.marks, j);
    }

    public int ask(int j) {
        if (!now.hasJar(j)) {
            return refused(BAD);
        }
        int bits = guess.fitting(ABOUT_JARS, now.marks, j);
        return guess.tellingMost(ABOUT_JARS, bits, 0, MOST_COOL);
    }

    public int two(int k) {
        if (k < NONE) {
            refused(BAD);
            return BAD_TEN;
        }
        int found = 0;
        for (int i = 0; i < now.casters; i++) {
            for (int j = 0; j < now.casters; j++) {
                if (rests(i, j)) {
                    if (found == k) {
                        return 10 * i + j;
                    }
                    found++;
                }
            }
        }
        return k == NONE ? found : NOT_SO_MANY;
    }

    public int spilt(int j, int n, int x, int c) {
        if (!now.hasJar(j) || !within(n, 0, Plan.MOST_STEPS) || !within(x, 0, MOST_COOL) || !within(c, 0, 10)) {
            return refused(BAD);
        }
        plan.make(now, j, n);
        setFraction(plan.waysToKeep(now, j, x, c), plan.waysInAll());
        return 1;
    }

    public int noons(int seed, int n) {
        if (!within(seed, 0, 999999) || !within(n, 0, 60)) {
            return refused(BAD);
        }
        draft.become(now);
        long x = seed;
        for (int k = 0; k < n; k++) {
            x = (x * 1103515245L + 12345L) % 2147483648L;
            int i = (int) (x / 65536 % 7);
            int j = (int) (x / 1048576 % 4);
            if (draft.hasCaster(i) && draft.hasJar(j) && !draft.isMilked(i)) {
                draft.draw(i, j);
            }
            if (x / 16384 % 2 == 0) {
                draft.passHour();
            }
        }
        return draft.coolInAll();
    }

    // ---- what there is

    public long part(int what) {
        switch (what) {
            case 0:
                return above;
            case 1:
                return below;
            default:
                return refused(BAD);
        }
    }

    public int image(int i) {
        if (!within(i, 0, IMAGES - 1)) {
            return refused(BAD);
        }
        images[i].become(now);
        imageKept[i] = true;
        return 1;
    }

    public int from(int i) {
        if (!within(i, 0, IMAGES - 1)) {
            return refused(BAD);
        }
        if (!imageKept[i]) {
            return refused(NO);
        }
        now.become(images[i]);
        return 1;
    }

    public int status(int what) {
        switch (what) {
            case 0:
                return bads;
            case 1:
                return noes;
            case 2:
                return fulls;
            default:
                refused(BAD);
                return NONE;
        }
    }

    public int count(int what) {
        if (!within(what, 0, 9)) {
            return refused(BAD);
        }
        return counted(what);
    }

    public long digest() {
        long h = 1879;
        for (int what = 0; what <= 9; what++) {
            h = 31 * h + counted(what);
        }
        h = now.mixed(h);
        h = 31 * h + above;
        return 31 * h + below;
    }

    // ---- what the calls above lean on

    private static boolean within(int value, int least, int most) {
        return value >= least && value <= most;
    }

    private int refused(int reason) {
        if (reason == BAD) {
            bads++;
        } else if (reason == NO) {
            noes++;
        } else {
            fulls++;
        }
        return reason;
    }

    private int counted(int what) {
        switch (what) {
            case 0:
                return now.casters;
            case 1:
                return now.jars;
            case 2:
                return now.coolInAll();
            case 3:
                return now.hour;
            case 4:
                return Integer.bitCount(now.milked);
            case 5:
                return now.sold;
            case 6:
                return now.notes.size;
            case 7:
                return now.marks.size;
            case 8:
                return now.past.steps;
            default:
                return text.length;
        }
    }

    /** The casters to draw from, as bits, or NONE. */
    private int fewestLadles(int j, int taste, int x) {
        if (now.cool[j] > 0 && now.jarTaste[j] != taste) {
            return NONE;
        }
        int best = NONE;
        for (int bits = 0; bits < 1 << now.casters; bits++) {
            boolean fewer = best == NONE || Integer.bitCount(bits) < Integer.bitCount(best);
            if (fewer && now.mayDraw(bits, taste) && now.cool[j] + now.givenBy(bits) >= x) {
                best = bits;
            }
        }
        return best;
    }

    private int pouredBehind(int j, int k, int m) {
        int came = Math.min(now.cool[j], MOST_COOL - now.cool[k]);
        return JarKinds.keptBehind(now.jarKind[j], now.cool[j] - came, now.hour, m)
            + JarKinds.keptBehind(now.jarKind[k], now.cool[k] + came, now.hour, m);
    }

    private boolean rests(int i, int j) {
        if (now.isMilked(i) || now.isMilked(j)) {
            return false;
        }
        int mine = share(i, j);
        int yours = share(j, i);
        for (int other = 0; other < now.casters; other++) {
            if (!now.isMilked(other) && (share(other, j) > mine || share(other, i) > yours)) {
                return false;
            }
        }
        return true;
    }

    private int share(int own, int other) {
        int given = now.givenBehind(own, 0);
        if (own == other) {
            return given / 2 - 1;
        }
        return now.casterTaste[own] == now.casterTaste[other] ? given : given + 2;
    }

    private void setFraction(long ways, long all) {
        long divisor = greatestDivisor(ways, all);
        if (divisor > 0) {
            above = ways / divisor;
            below = all / divisor;
        }
    }

    private static long greatestDivisor(long a, long b) {
        // each two turns at least halve b, so 128 turns are enough for every long
        for (int turn = 0; turn < 128 && b != 0; turn++) {
            long rest = a % b;
            a = b;
            b = rest;
        }
        return a;
    }

    /** How much a caster gives; each kind builds on the one that it stands under. */
    private static final class CasterKinds {
        private static final int TREE = 1, FIG = 2, CLOUD = 3, MAN = 4, PERGOLA = 5;

        static int given(int kind, int h, int t) {
            int byWall = (h + 1) / 2;
            int byTree = t >= 11 && t <= 13 ? byWall + h : byWall;
            switch (kind) {
                case TREE:
                    return byTree;
                case FIG:
                    return byTree / 2;
                case CLOUD:
                    return t % 3 == 0 ? 0 : 2 * byWall;
                case MAN:
                    return byWall + Math.min(9, Math.abs(t - 12));
                case PERGOLA:
                    return byTree + 3;
                default:
                    return byWall;
            }
        }
    }

    /** How much a jar loses; each kind builds on the one that it stands under. */
    private static final class JarKinds {
        private static final int GLASS = 1, STONE = 2, CRACKED = 3, WICKER = 4, CELLAR = 5;

        /** As the kind says, also where that is more than the jar has. */
        static int lost(int kind, int c, int t) {
            int byClay = 1;
            int byGlass = byClay + 2;
            int byStone = t < 6 ? 0 : byClay;
            switch (kind) {
                case GLASS:
                    return byGlass;
                case STONE:
                    return byStone;
                case CRACKED:
                    return byGlass + c / 10;
                case WICKER:
                    return (c + 1) / 2;
                case CELLAR:
                    return c >= 20 ? 0 : byStone;
                default:
                    return byClay;
            }
        }

        static int kept(int kind, int c, int hour) {
            return Math.max(0, c - lost(kind, c, hour % DAY));
        }

        static int keptBehind(int kind, int c, int hour, int m) {
            int left = c;
            for (int k = 0; k < m; k++) {
                left = kept(kind, left, hour + k);
            }
            return left;
        }
    }

    /** All that an image keeps. */
    private static final class Isle {
        int hour;
        int sold;
        // one bit for each caster
        int milked;
        int casters;
        int jars;
        final int[] casterKind = new int[CASTERS];
        final int[] height = new int[CASTERS];
        final int[] casterTaste = new int[CASTERS];
        final int[] jarKind = new int[JARS];
        final int[] cool = new int[JARS];
        final int[] jarTaste = new int[JARS];
        final Rows notes = new Rows();
        final Rows marks = new Rows();
        final Past past = new Past();

        void begin(int t) {
            hour = t;
            sold = 0;
            milked = 0;
            casters = 0;
            jars = 0;
            notes.empty();
            marks.empty();
            past.empty();
        }

        void become(Isle other) {
            hour = other.hour;
            sold = other.sold;
            milked = other.milked;
            casters = other.casters;
            jars = other.jars;
            System.arraycopy(other.casterKind, 0, casterKind, 0, CASTERS);
            System.arraycopy(other.height, 0, height, 0, CASTERS);
            System.arraycopy(other.casterTaste, 0, casterTaste, 0, CASTERS);
            System.arraycopy(other.jarKind, 0, jarKind, 0, JARS);
            System.arraycopy(other.cool, 0, cool, 0, JARS);
            System.arraycopy(other.jarTaste, 0, jarTaste, 0, JARS);
            notes.become(other.notes);
            marks.become(other.marks);
            past.become(other.past);
        }

        boolean hasCaster(int i) {
            return i >= 0 && i < casters;
        }

        boolean hasJar(int j) {
            return j >= 0 && j < jars;
        }

        boolean isMilked(int i) {
            return (milked >> i & 1) != 0;
        }

        int addCaster(int kind, int h, int taste) {
            if (casters >= CASTERS) {
                return FULL;
            }
            casterKind[casters] = kind;
            height[casters] = h;
            casterTaste[casters] = taste;
            casters++;
            return casters - 1;
        }

        int addJar(int kind) {
            if (jars >= JARS) {
                return FULL;
            }
            jarKind[jars] = kind;
            cool[jars] = 0;
            jarTaste[jars] = NONE;
            jars++;
            return jars - 1;
        }

        int givenBehind(int i, int m) {
            return CasterKinds.given(casterKind[i], height[i], (hour + m) % DAY);
        }

        int coolBehind(int j, int m) {
            return JarKinds.keptBehind(jarKind[j], cool[j], hour, m);
        }

        boolean mayDraw(int bits, int taste) {
            for (int i = 0; i < casters; i++) {
                if ((bits >> i & 1) != 0 && (isMilked(i) || casterTaste[i] != taste)) {
                    return false;
                }
            }
            return true;
        }

        int givenBy(int bits) {
            int sum = 0;
            for (int i = 0; i < casters; i++) {
                if ((bits >> i & 1) != 0) {
                    sum += givenBehind(i, 0);
                }
            }
            return sum;
        }

        int draw(int i, int j) {
            milked |= 1 << i;
            return fill(j, givenBehind(i, 0), casterTaste[i]);
        }

        int pour(int j, int k) {
            int came = fill(k, cool[j], jarTaste[j]);
            drain(j, came);
            return came;
        }

        int sell(int j) {
            int worth = jarTaste[j] == MIXED ? cool[j] : 2 * cool[j];
            int more = Math.min(worth, MOST_SOLD - sold);
            sold += more;
            drain(j, cool[j]);
            return more;
        }

        private int fill(int j, int amount, int taste) {
            int came = Math.min(amount, MOST_COOL - cool[j]);
            if (came > 0) {
                jarTaste[j] = cool[j] == 0 || jarTaste[j] == taste ? taste : MIXED;
                cool[j] += came;
            }
            return came;
        }

        private void drain(int j, int amount) {
            cool[j] -= amount;
            if (cool[j] == 0) {
                jarTaste[j] = NONE;
            }
        }

        void passHours(int n) {
            for (int k = 0; k < n && hour < LAST_HOUR; k++) {
                passHour();
            }
        }

        /** Has no last hour: noons go beyond it. */
        void passHour() {
            for (int j = 0; j < jars; j++) {
                drain(j, cool[j] - JarKinds.kept(jarKind[j], cool[j], hour));
            }
            hour++;
            milked = 0;
        }

        int coolInAll() {
            int sum = 0;
            for (int j = 0; j < jars; j++) {
                sum += cool[j];
            }
            return sum;
        }

        long mixed(long before) {
            long h = before;
            for (int i = 0; i < casters; i++) {
                h = 31 * h + casterKind[i];
                h = 31 * h + height[i];
                h = 31 * h + casterTaste[i];
                h = 31 * h + (isMilked(i) ? 1 : 0);
            }
            for (int j = 0; j < jars; j++) {
                h = 31 * h + jarKind[j];
                h = 31 * h + cool[j];
                h = 31 * h + jarTaste[j];
            }
            return marks.mixed(notes.mixed(h));
        }
    }

    /** Notes or marks: of whom, the height or the cool, the hour of a day, how much. */
    private static final class Rows {
        private static final int MOST = 6;
        private static final int WIDTH = 4;
        private final int[] cells = new int[MOST * WIDTH];
        int size;

        boolean isFull() {
            return size >= MOST;
        }

        int add(int who, int measure, int t, int x) {
            if (isFull()) {
                return FULL;
            }
            int at = size * WIDTH;
            cells[at] = who;
            cells[at + 1] = measure;
            cells[at + 2] = t;
            cells[at + 3] = x;
            size++;
            return size;
        }

        int empty() {
            int before = size;
            size = 0;
            return before;
        }

        void become(Rows other) {
            System.arraycopy(other.cells, 0, cells, 0, MOST * WIDTH);
            size = other.size;
        }

        boolean agree(int book, int who, int kind) {
            for (int at = 0; at < size * WIDTH; at += WIDTH) {
                if (cells[at] == who && Guess.says(book, kind, cells[at + 1], cells[at + 2]) != cells[at + 3]) {
                    return false;
                }
            }
            return true;
        }

        long mixed(long before) {
            long h = before;
            for (int at = 0; at < size * WIDTH; at++) {
                h = 31 * h + cells[at];
            }
            return h;
        }
    }

    /** What may be undone, the oldest first. */
    private static final class Past {
        private static final int MOST = 8;
        private static final int WIDTH = 2 * JARS + 3;
        private final int[] cells = new int[MOST * WIDTH];
        int steps;

        void empty() {
            steps = 0;
        }

        void become(Past other) {
            System.arraycopy(other.cells, 0, cells, 0, MOST * WIDTH);
            steps = other.steps;
        }

        void remember(Isle isle) {
            if (steps >= MOST) {
                System.arraycopy(cells, WIDTH, cells, 0, (MOST - 1) * WIDTH);
                steps = MOST - 1;
            }
            int at = steps * WIDTH;
            System.arraycopy(isle.cool, 0, cells, at, JARS);
            System.arraycopy(isle.jarTaste, 0, cells, at + JARS, JARS);
            cells[at + 2 * JARS] = isle.milked;
            cells[at + 2 * JARS + 1] = isle.sold;
            cells[at + 2 * JARS + 2] = isle.hour;
            steps++;
        }

        boolean bringBack(Isle isle) {
            if (steps <= 0) {
                return false;
            }
            steps--;
            int at = steps * WIDTH;
            System.arraycopy(cells, at, isle.cool, 0, JARS);
            System.arraycopy(cells, at + JARS, isle.jarTaste, 0, JARS);
            isle.milked = cells[at + 2 * JARS];
            isle.sold = cells[at + 2 * JARS + 1];
            isle.hour = cells[at + 2 * JARS + 2];
            return true;
        }
    }

    /** Of which kind a caster or a jar is, and what to look at next. */
    private static final class Guess {
        private final int[] answers = new int[KINDS];

        static int says(int book, int kind, int measure, int t) {
            return book == ABOUT_CASTERS ? CasterKinds.given(kind, measure, t) : JarKinds.lost(kind, measure, t);
        }

        int fitting(int book, Rows rows, int who) {
            int bits = 0;
            for (int kind = 0; kind < KINDS; kind++) {
                if (rows.agree(book, who, kind)) {
                    bits |= 1 << kind;
                }
            }
            return bits;
        }

        /** 100 times the height or the cool, and the hour, that tells these kinds apart best; or NONE. */
        int tellingMost(int book, int bits, int from, int to) {
            if (bits == 0) {
                return NONE;
            }
            int best = NONE;
            int fewest = KINDS + 1;
            for (int measure = from; measure <= to; measure++) {
                for (int t = 0; t < DAY; t++) {
                    int alike = mostAlike(book, bits, measure, t);
                    if (alike < fewest) {
                        fewest = alike;
                        best = 100 * measure + t;
                    }
                    if (fewest == 1) {
                        return best;
                    }
                }
            }
            return best;
        }

        private int mostAlike(int book, int bits, int measure, int t) {
            int most = 0;
            int asked = 0;
            for (int kind = 0; kind < KINDS; kind++) {
                if ((bits >> kind & 1) != 0) {
                    int answer = says(book, kind, measure, t);
                    most = Math.max(most, 1 + answeredSo(answer, asked));
                    answers[asked] = answer;
                    asked++;
                }
            }
            return most;
        }

        private int answeredSo(int answer, int asked) {
            int same = 0;
            for (int k = 0; k < asked; k++) {
                if (answers[k] == answer) {
                    same++;
                }
            }
            return same;
        }
    }

    /** The round for a jar. Casters are free again after each hour, so that only the cool goes on from step to step. */
    private static final class Plan {
        static final int MOST_STEPS = 4;
        private static final int LEVELS = MOST_COOL + 1;
        // what the casters give at each step, NONE where one is milked
        private final int[] given = new int[MOST_STEPS * CASTERS];
        // the most that can be had at the end, by step and the cool just ahead of its hour
        private final int[] end = new int[MOST_STEPS * LEVELS];
        final int[] row = new int[MOST_STEPS];
        private int casters;
        private int steps;
        int best;

        void make(Isle isle, int j, int n) {
            casters = isle.casters;
            steps = n;
            for (int s = 0; s < n; s++) {
                askCasters(isle, s);
            }
            for (int s = n - 1; s >= 0; s--) {
                for (int c = 0; c <= MOST_COOL; c++) {
                    int kept = JarKinds.kept(isle.jarKind[j], c, isle.hour + s);
                    end[s * LEVELS + c] = s == n - 1 ? kept : mostFrom(s + 1, kept);
                }
            }
            chooseRow(isle, j);
        }

        private void askCasters(Isle isle, int s) {
            for (int i = 0; i < casters; i++) {
                given[s * CASTERS + i] = s == 0 && isle.isMilked(i) ? NONE : isle.givenBehind(i, s);
            }
        }

        private void chooseRow(Isle isle, int j) {
            int c = isle.cool[j];
            best = steps == 0 ? c : mostFrom(0, c);
            for (int s = 0; s < steps; s++) {
                row[s] = firstThatReaches(s, c);
                c = JarKinds.kept(isle.jarKind[j], filled(s, c), isle.hour + s);
            }
        }

        private int mostFrom(int s, int c) {
            int most = end[s * LEVELS + c];
            for (int i = 0; i < casters; i++) {
                most = Math.max(most, end[s * LEVELS + with(s, i, c)]);
            }
            return most;
        }

        private int firstThatReaches(int s, int c) {
            for (int i = 0; i < casters; i++) {
                if (given[s * CASTERS + i] != NONE && end[s * LEVELS + with(s, i, c)] == best) {
                    return i;
                }
            }
            return NONE;
        }

        private int with(int s, int i, int c) {
            return Math.min(MOST_COOL, c + Math.max(0, given[s * CASTERS + i]));
        }

        private int filled(int s, int c) {
            return row[s] == NONE ? c : with(s, row[s], c);
        }

        /** Of the ways by which ladles are spilt, c in ten each, those that leave x or more. */
        long waysToKeep(Isle isle, int j, int x, int c) {
            long sum = 0;
            for (int spilt = 0; spilt < 1 << steps; spilt++) {
                long ways = 1;
                int left = isle.cool[j];
                // a step without a ladle leaves the same both ways, and both ways together count ten: the chance is right
                for (int s = 0; s < steps; s++) {
                    boolean lost = (spilt >> s & 1) != 0;
                    ways *= lost ? c : 10 - c;
                    left = JarKinds.kept(isle.jarKind[j], lost ? left : filled(s, left), isle.hour + s);
                }
                if (left >= x) {
                    sum += ways;
                }
            }
            return sum;
        }

        long waysInAll() {
            long ways = 1;
            for (int s = 0; s < steps; s++) {
                ways *= 10;
            }
            return ways;
        }
    }

    /** The text, and how it tells an island. */
    private static final class Text {
        private static final int MOST = 150;
        private static final int FAULT = -10;
        private static final int ENDED = 0, WORD = 1, NUMBER = 2, STOP = 3, WRONG = 4;
        private static final int ISLAND = 0, CASTER = 1, JAR = 2, LADLE = 3, POUR = 4, HOURS = 5;

        private final byte[] bytes = new byte[MOST];
        private final int[] numbers = new int[3];
        int length;
        // the token looked at: from start up to at
        private int start;
        private int at;
        private int token;
        private int number;

        boolean isFull() {
            return length >= MOST;
        }

        int add(int c) {
            if (isFull()) {
                return FULL;
            }
            bytes[length] = (byte) c;
            length++;
            return length;
        }

        int empty() {
            int before = length;
            length = 0;
            return before;
        }

        /** How many items, or FAULT less the place of the fault. */
        int tell(Isle isle) {
            isle.begin(0);
            at = 0;
            // an item takes more than one byte, so that the bound is never met
            for (int items = 0; items <= MOST; items++) {
                step();
                if (token == ENDED && items > 0) {
                    return items;
                }
                int word = token == WORD ? wordNumber() : NONE;
                if (!mayBegin(isle, word, items == 0) || !takeNumbers(isle, word)) {
                    break;
                }
                carryOut(isle, word);
            }
            return FAULT - start;
        }

        private static boolean mayBegin(Isle isle, int word, boolean first) {
            switch (word) {
                case NONE:
                    return false;
                case ISLAND:
                    return first;
                case CASTER:
                    return !first && isle.casters < CASTERS;
                case JAR:
                    return !first && isle.jars < JARS;
                default:
                    return !first;
            }
        }

        /** Up to the item's end; false: the token looked at can not stand there. */
        private boolean takeNumbers(Isle isle, int word) {
            int wanted = numbersOf(word);
            for (int place = 0; place < wanted && place < numbers.length; place++) {
                step();
                if (token != NUMBER || !fits(isle, word, place)) {
                    return false;
                }
                numbers[place] = number;
            }
            step();
            return token == STOP;
        }

        private static int numbersOf(int word) {
            switch (word) {
                case CASTER:
                    return 3;
                case LADLE:
                case POUR:
                    return 2;
                default:
                    return 1;
            }
        }

        private boolean fits(Isle isle, int word, int place) {
            switch (word) {
                case CASTER:
                    return fitsCaster(place);
                case JAR:
                    return number < KINDS;
                case LADLE:
                    return place == 0 ? isle.hasCaster(number) && !isle.isMilked(number) : isle.hasJar(number);
                case POUR:
                    return isle.hasJar(number) && (place == 0 ? isle.cool[number] > 0 : number != numbers[0]);
                case HOURS:
                    return number >= 1;
                default:
                    return true;
            }
        }

        private boolean fitsCaster(int place) {
            switch (place) {
                case 0:
                    return number < KINDS;
                case 1:
                    return within(number, 1, TALLEST);
                default:
                    return number < TASTES;
            }
        }

        private void carryOut(Isle isle, int word) {
            switch (word) {
                case ISLAND:
                    isle.hour = numbers[0];
                    break;
                case CASTER:
                    isle.addCaster(numbers[0], numbers[1], numbers[2]);
                    break;
                case JAR:
                    isle.addJar(numbers[0]);
                    break;
                case LADLE:
                    isle.draw(numbers[0], numbers[1]);
                    break;
                case POUR:
                    isle.pour(numbers[0], numbers[1]);
                    break;
                default:
                    isle.passHours(numbers[0]);
                    break;
            }
        }

        private void step() {
            while (at < length && bytes[at] == ' ') {
                at++;
            }
            start = at;
            if (at >= length) {
                token = ENDED;
            } else if (isLetter(bytes[at])) {
                token = WORD;
                while (at < length && isLetter(bytes[at])) {
                    at++;
                }
            } else if (isFigure(bytes[at])) {
                takeNumber();
            } else {
                token = bytes[at] == ';' ? STOP : WRONG;
                at++;
            }
        }

        private void takeNumber() {
            number = 0;
            while (at < length && isFigure(bytes[at])) {
                number = (10 * number + bytes[at] - '0') % 100;
                at++;
            }
            token = at - start <= 2 ? NUMBER : WRONG;
        }

        private static boolean isLetter(byte b) {
            return b >= 'a' && b <= 'z';
        }

        private static boolean isFigure(byte b) {
            return b >= '0' && b <= '9';
        }

        private int wordNumber() {
            if (isWord("island")) {
                return ISLAND;
            }
            if (isWord("caster")) {
                return CASTER;
            }
            if (isWord("jar")) {
                return JAR;
            }
            if (isWord("ladle")) {
                return LADLE;
            }
            if (isWord("pour")) {
                return POUR;
            }
            return isWord("hours") ? HOURS : NONE;
        }

        private boolean isWord(String word) {
            if (word.length() != at - start) {
                return false;
            }
            for (int k = 0; k < word.length(); k++) {
                if (bytes[start + k] != word.charAt(k)) {
                    return false;
                }
            }
            return true;
        }
    }
}
