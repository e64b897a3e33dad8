import java.math.BigInteger;
import java.util.ArrayDeque;
import java.util.ArrayList;
import java.util.Arrays;
import java.util.Deque;
import java.util.HashMap;
import java.util.List;
import java.util.Map;
import java.util.regex.Matcher;
import java.util.regex.Pattern;

/** The document once more, in the plainest way, by trying everything; for comparison alone. */
final class Model {
    // ---- kinds over one another

    static class Wall {
        int gives(int h, int t) {
            return (int) Math.ceil(h / 2.0);
        }
    }

    static class Tree extends Wall {
        @Override int gives(int h, int t) {
            return List.of(11, 12, 13).contains(t) ? super.gives(h, t) + h : super.gives(h, t);
        }
    }

    static class Fig extends Tree {
        @Override int gives(int h, int t) {
            return (int) Math.floor(super.gives(h, t) / 2.0);
        }
    }

    static class Cloud extends Wall {
        @Override int gives(int h, int t) {
            return t % 3 == 0 ? 0 : super.gives(h, t) * 2;
        }
    }

    static class Man extends Wall {
        @Override int gives(int h, int t) {
            int far = t > 12 ? t - 12 : 12 - t;
            return super.gives(h, t) + (far > 9 ? 9 : far);
        }
    }

    static class Pergola extends Tree {
        @Override int gives(int h, int t) {
            return super.gives(h, t) + 3;
        }
    }

    static class Clay {
        int loses(int c, int t) {
            return 1;
        }
    }

    static class Glass extends Clay {
        @Override int loses(int c, int t) {
            return super.loses(c, t) + 2;
        }
    }

    static class Stone extends Clay {
        @Override int loses(int c, int t) {
            return t < 6 ? 0 : super.loses(c, t);
        }
    }

    static class Cracked extends Glass {
        @Override int loses(int c, int t) {
            return super.loses(c, t) + c / 10;
        }
    }

    static class Wicker extends Clay {
        @Override int loses(int c, int t) {
            return c - c / 2;
        }
    }

    static class Cellar extends Stone {
        @Override int loses(int c, int t) {
            return c >= 20 ? 0 : super.loses(c, t);
        }
    }

    static final List<Wall> CASTER_KINDS = List.of(new Wall(), new Tree(), new Fig(), new Cloud(), new Man(), new Pergola());
    static final List<Clay> JAR_KINDS = List.of(new Clay(), new Glass(), new Stone(), new Cracked(), new Wicker(), new Cellar());

    // ---- what there is

    static final class Caster {
        int kind, height, taste;
        boolean milked;

        int gives(int hour) {
            return CASTER_KINDS.get(kind).gives(height, hour % 24);
        }

        Caster copy() {
            Caster c = new Caster();
            c.kind = kind;
            c.height = height;
            c.taste = taste;
            c.milked = milked;
            return c;
        }
    }

    static final class Jar {
        int kind, cool, taste = -1;

        int receive(int amount, int from) {
            int came = Math.min(amount, 60 - cool);
            if (came > 0) {
                if (cool == 0) {
                    taste = from;
                } else if (taste != from) {
                    taste = 4;
                }
                cool += came;
            }
            return came;
        }

        void lose(int amount) {
            cool = amount >= cool ? 0 : cool - amount;
            taste = cool == 0 ? -1 : taste;
        }

        void hour(int hour) {
            lose(JAR_KINDS.get(kind).loses(cool, hour % 24));
        }

        Jar copy() {
            Jar j = new Jar();
            j.kind = kind;
            j.cool = cool;
            j.taste = taste;
            return j;
        }
    }

    static final class World {
        int hour, sold;
        List<Caster> casters = new ArrayList<>();
        List<Jar> jars = new ArrayList<>();
        List<int[]> notes = new ArrayList<>();
        List<int[]> marks = new ArrayList<>();
        Deque<World> past = new ArrayDeque<>();

        World copy() {
            World w = new World();
            w.hour = hour;
            w.sold = sold;
            casters.forEach(c -> w.casters.add(c.copy()));
            jars.forEach(j -> w.jars.add(j.copy()));
            w.notes.addAll(notes);
            w.marks.addAll(marks);
            w.past.addAll(past);
            return w;
        }

        void passHour() {
            jars.forEach(j -> j.hour(hour));
            hour++;
            casters.forEach(c -> c.milked = false);
        }

        int ladle(int i, int j) {
            casters.get(i).milked = true;
            return jars.get(j).receive(casters.get(i).gives(hour), casters.get(i).taste);
        }

        int pour(int j, int k) {
            int came = jars.get(k).receive(jars.get(j).cool, jars.get(j).taste);
            jars.get(j).lose(came);
            return came;
        }

        int cool() {
            return jars.stream().mapToInt(j -> j.cool).sum();
        }
    }

    World w = new World();
    World[] images = new World[2];
    StringBuilder text = new StringBuilder();
    BigInteger above = BigInteger.ZERO, below = BigInteger.ONE;
    int[] status = new int[3];

    private int bad() {
        status[0]++;
        return -2;
    }

    private int no() {
        status[1]++;
        return -3;
    }

    private int full() {
        status[2]++;
        return -4;
    }

    private static boolean out(int v, int low, int high) {
        return v < low || v > high;
    }

    private boolean noCaster(int i) {
        return out(i, 0, w.casters.size() - 1);
    }

    private boolean noJar(int j) {
        return out(j, 0, w.jars.size() - 1);
    }

    private void remember() {
        World before = w.copy();
        before.past.clear();
        w.past.addLast(before);
        if (w.past.size() > 8) {
            w.past.removeFirst();
        }
    }

    /** Any call by its name. */
    long call(String name, int[] a) {
        switch (name) {
            case "island": return island(a[0]);
            case "caster": return caster(a[0], a[1], a[2]);
            case "jar": return jar(a[0]);
            case "type": return type(a[0]);
            case "clear": return clear();
            case "read": return read();
            case "ladle": return ladle(a[0], a[1]);
            case "pours": return pours(a[0], a[1]);
            case "sells": return sells(a[0]);
            case "hours": return hours(a[0]);
            case "undo": return undo();
            case "of": return of(a[0], a[1]);
            case "about": return about(a[0], a[1]);
            case "gives": return gives(a[0], a[1]);
            case "keeps": return keeps(a[0], a[1]);
            case "when": return when(a[0]);
            case "gone": return gone(a[0]);
            case "round": return round(a[0], a[1], a[2]);
            case "few": return few(a[0], a[1], a[2], a[3]);
            case "into": return into(a[0], a[1], a[2]);
            case "note": return note(a[0], a[1], a[2], a[3]);
            case "mark": return mark(a[0], a[1], a[2], a[3]);
            case "forget": return forget(a[0]);
            case "is": return noCaster(a[0]) ? bad() : isBits(a[0]);
            case "look": return look(a[0]);
            case "kinds": return noJar(a[0]) ? bad() : whatBits(a[0]);
            case "ask": return ask(a[0]);
            case "two": return two(a[0]);
            case "spilt": return spilt(a[0], a[1], a[2], a[3]);
            case "noons": return noons(a[0], a[1]);
            case "part": return out(a[0], 0, 1) ? bad() : (a[0] == 0 ? above : below).longValueExact();
            case "image": return image(a[0]);
            case "from": return from(a[0]);
            case "status": return statusOf(a[0]);
            case "count": return out(a[0], 0, 9) ? bad() : count(a[0]);
            case "digest": return digest();
            default: throw new IllegalArgumentException(name);
        }
    }

    int island(int t) {
        if (out(t, 0, 99)) {
            return bad();
        }
        int before = w.casters.size();
        w = new World();
        w.hour = t;
        return before;
    }

    private static Caster newCaster(int kind, int h, int taste) {
        Caster c = new Caster();
        c.kind = kind;
        c.height = h;
        c.taste = taste;
        return c;
    }

    private static Jar newJar(int kind) {
        Jar j = new Jar();
        j.kind = kind;
        return j;
    }

    int caster(int kind, int h, int taste) {
        if (out(kind, 0, 5) || out(h, 1, 9) || out(taste, 0, 3)) {
            return bad();
        }
        if (w.casters.size() == 7) {
            return full();
        }
        w.casters.add(newCaster(kind, h, taste));
        w.past.clear();
        return w.casters.size() - 1;
    }

    int jar(int kind) {
        if (out(kind, 0, 5)) {
            return bad();
        }
        if (w.jars.size() == 4) {
            return full();
        }
        w.jars.add(newJar(kind));
        w.past.clear();
        return w.jars.size() - 1;
    }

    int type(int c) {
        if (out(c, 0, 127)) {
            return bad();
        }
        if (text.length() == 150) {
            return full();
        }
        text.append((char) c);
        return text.length();
    }

    int clear() {
        int before = text.length();
        text.setLength(0);
        return before;
    }

    // ---- reading: all tokens first, then one item after another

    private static final Pattern TOKEN = Pattern.compile("[a-z]+|[0-9]+|;|[^ ]", Pattern.DOTALL);
    private static final Map<String, Integer> NUMBERS = Map.of("island", 1, "caster", 3, "jar", 1, "ladle", 2, "pour", 2, "hours", 1);

    int read() {
        List<String> tokens = new ArrayList<>();
        List<Integer> places = new ArrayList<>();
        Matcher m = TOKEN.matcher(text);
        while (m.find()) {
            tokens.add(m.group());
            places.add(m.start());
        }
        places.add(text.length());
        World made = new World();
        int at = 0;
        int items = 0;
        while (at < tokens.size() || items == 0) {
            int bad = item(made, tokens, at, items);
            if (bad >= 0) {
                return -10 - places.get(bad);
            }
            at += NUMBERS.get(tokens.get(at)) + 2;
            items++;
        }
        w = made;
        return items;
    }

    /** The token at fault, or -1 when the item was carried out. */
    private int item(World made, List<String> tokens, int at, int items) {
        if (at >= tokens.size()) {
            return at;
        }
        String word = tokens.get(at);
        boolean known = NUMBERS.containsKey(word);
        if (!known || (items == 0) != word.equals("island")
            || word.equals("caster") && made.casters.size() == 7 || word.equals("jar") && made.jars.size() == 4) {
            return at;
        }
        int[] n = new int[3];
        int count = NUMBERS.get(word);
        for (int k = 0; k < count; k++) {
            int place = at + 1 + k;
            if (place >= tokens.size() || !tokens.get(place).matches("[0-9]{1,2}")) {
                return place;
            }
            n[k] = Integer.parseInt(tokens.get(place));
            if (!mayStand(made, word, k, n)) {
                return place;
            }
        }
        int end = at + 1 + count;
        if (end >= tokens.size() || !tokens.get(end).equals(";")) {
            return end;
        }
        carryOut(made, word, n);
        return -1;
    }

    private static boolean mayStand(World made, String word, int k, int[] n) {
        int v = n[k];
        switch (word) {
            case "caster": return k == 0 ? v <= 5 : k == 1 ? v >= 1 && v <= 9 : v <= 3;
            case "jar": return v <= 5;
            case "ladle": return k == 0 ? v < made.casters.size() && !made.casters.get(v).milked : v < made.jars.size();
            case "pour": return v < made.jars.size() && (k == 0 ? made.jars.get(v).cool > 0 : v != n[0]);
            case "hours": return v > 0;
            default: return true;
        }
    }

    private static void carryOut(World made, String word, int[] n) {
        switch (word) {
            case "island": made.hour = n[0]; break;
            case "caster": made.casters.add(newCaster(n[0], n[1], n[2])); break;
            case "jar": made.jars.add(newJar(n[0])); break;
            case "ladle": made.ladle(n[0], n[1]); break;
            case "pour": made.pour(n[0], n[1]); break;
            default:
                for (int k = 0; k < n[0]; k++) {
                    made.passHour();
                }
        }
    }

    // ---- ladles

    int ladle(int i, int j) {
        if (noCaster(i) || noJar(j)) {
            return bad();
        }
        if (w.casters.get(i).milked) {
            return no();
        }
        remember();
        return w.ladle(i, j);
    }

    int pours(int j, int k) {
        if (noJar(j) || noJar(k) || j == k) {
            return bad();
        }
        if (w.jars.get(j).cool == 0) {
            return no();
        }
        remember();
        return w.pour(j, k);
    }

    int sells(int j) {
        if (noJar(j)) {
            return bad();
        }
        if (w.jars.get(j).cool == 0) {
            return no();
        }
        remember();
        int before = w.sold;
        w.sold = Math.min(9999, w.sold + w.jars.get(j).cool * (w.jars.get(j).taste == 4 ? 1 : 2));
        w.jars.get(j).lose(60);
        return w.sold - before;
    }

    int hours(int n) {
        if (out(n, 1, 60)) {
            return bad();
        }
        if (w.hour == 9999) {
            return 9999;
        }
        remember();
        for (int k = 0; k < n; k++) {
            if (w.hour < 9999) {
                w.passHour();
            }
        }
        return w.hour;
    }

    int undo() {
        if (w.past.isEmpty()) {
            return no();
        }
        World before = w.past.removeLast().copy();
        before.past = w.past;
        before.notes = w.notes;
        before.marks = w.marks;
        w = before;
        return w.hour;
    }

    int of(int i, int what) {
        if (noCaster(i) || out(what, 0, 4)) {
            return bad();
        }
        Caster c = w.casters.get(i);
        return new int[] {c.kind, c.height, c.taste, c.milked ? 1 : 0, c.gives(w.hour)}[what];
    }

    int about(int j, int what) {
        if (noJar(j) || out(what, 0, 3)) {
            return bad();
        }
        Jar x = w.jars.get(j);
        Jar later = x.copy();
        later.hour(w.hour);
        return new int[] {x.kind, x.cool, x.taste, x.cool - later.cool}[what];
    }

    // ---- how much

    int gives(int i, int m) {
        return noCaster(i) || out(m, 0, 60) ? bad() : w.casters.get(i).gives(w.hour + m);
    }

    private int kept(Jar jar, int m) {
        Jar later = jar.copy();
        for (int k = 0; k < m; k++) {
            later.hour(w.hour + k);
        }
        return later.cool;
    }

    int keeps(int j, int m) {
        return noJar(j) || out(m, 0, 60) ? bad() : kept(w.jars.get(j), m);
    }

    int when(int i) {
        if (noCaster(i)) {
            return bad();
        }
        int best = 23;
        for (int m = 23; m >= 0; m--) {
            best = w.casters.get(i).gives(w.hour + m) >= w.casters.get(i).gives(w.hour + best) ? m : best;
        }
        return best;
    }

    int gone(int j) {
        if (noJar(j)) {
            return bad();
        }
        for (int m = 0; m <= 60; m++) {
            if (kept(w.jars.get(j), m) == 0) {
                return m;
            }
        }
        return -1;
    }

    private int bestCool;
    private int[] bestRow;

    /** Every row in its order; the first that has most stays. */
    private void tryRows(World from, int j, int[] row, int at) {
        if (at == row.length) {
            if (from.jars.get(j).cool > bestCool) {
                bestCool = from.jars.get(j).cool;
                bestRow = row.clone();
            }
            return;
        }
        for (int i = 0; i <= from.casters.size(); i++) {
            boolean none = i == from.casters.size();
            if (none || !from.casters.get(i).milked) {
                World next = from.copy();
                if (!none) {
                    next.ladle(i, j);
                }
                next.passHour();
                row[at] = none ? -1 : i;
                tryRows(next, j, row, at + 1);
            }
        }
    }

    /** Only what the round can depend on, so that copies are small. */
    private void findRound(int j, int n) {
        World small = new World();
        small.hour = w.hour;
        w.casters.forEach(c -> small.casters.add(c.copy()));
        small.jars.add(w.jars.get(j).copy());
        bestCool = -1;
        tryRows(small, 0, new int[n], 0);
    }

    int round(int j, int n, int k) {
        if (noJar(j) || out(n, 1, 4) || (k < 0 && k != -2)) {
            bad();
            return -10;
        }
        if (k >= n) {
            return -5;
        }
        findRound(j, n);
        return k == -2 ? bestCool : bestRow[k];
    }

    int few(int j, int taste, int x, int what) {
        if (noJar(j) || out(taste, 0, 3) || out(x, 1, 60) || out(what, 0, 1)) {
            return bad();
        }
        Jar jar = w.jars.get(j);
        if (jar.cool != 0 && jar.taste != taste) {
            return -1;
        }
        for (int size = 0; size <= 7; size++) {
            for (int bits = 0; bits < 128; bits++) {
                if (Integer.bitCount(bits) == size && fewReaches(j, taste, x, bits)) {
                    return what == 0 ? size : bits;
                }
            }
        }
        return -1;
    }

    private boolean fewReaches(int j, int taste, int x, int bits) {
        World then = w.copy();
        for (int i = 0; i < 7; i++) {
            if ((bits & 1 << i) != 0) {
                if (noCaster(i) || w.casters.get(i).milked || w.casters.get(i).taste != taste) {
                    return false;
                }
                then.ladle(i, j);
            }
        }
        return then.jars.get(j).cool >= x;
    }

    int into(int j, int m, int what) {
        if (noJar(j) || out(m, 1, 30) || out(what, 0, 1)) {
            return bad();
        }
        if (w.jars.get(j).cool == 0) {
            return -1;
        }
        int[] best = {-1, -1};
        for (int k = 0; k < w.jars.size(); k++) {
            if (k != j) {
                World then = w.copy();
                then.pour(j, k);
                for (int h = 0; h < m; h++) {
                    then.passHour();
                }
                int both = then.jars.get(j).cool + then.jars.get(k).cool;
                if (both > best[1]) {
                    best = new int[] {k, both};
                }
            }
        }
        return best[what];
    }

    // ---- what it is

    int note(int i, int h, int t, int x) {
        if (noCaster(i) || out(h, 1, 9) || out(t, 0, 23) || out(x, 0, 40)) {
            return bad();
        }
        if (w.notes.size() == 6) {
            return full();
        }
        w.notes.add(new int[] {i, h, t, x});
        return w.notes.size();
    }

    int mark(int j, int c, int t, int x) {
        if (noJar(j) || out(c, 0, 60) || out(t, 0, 23) || out(x, 0, 60)) {
            return bad();
        }
        if (w.marks.size() == 6) {
            return full();
        }
        w.marks.add(new int[] {j, c, t, x});
        return w.marks.size();
    }

    int forget(int what) {
        if (out(what, 0, 1)) {
            return bad();
        }
        List<int[]> rows = what == 0 ? w.notes : w.marks;
        int before = rows.size();
        rows.clear();
        return before;
    }

    int isBits(int i) {
        int bits = 0;
        for (int kind = 0; kind < 6; kind++) {
            Wall k = CASTER_KINDS.get(kind);
            if (w.notes.stream().filter(n -> n[0] == i).allMatch(n -> k.gives(n[1], n[2]) == n[3])) {
                bits += 1 << kind;
            }
        }
        return bits;
    }

    int whatBits(int j) {
        int bits = 0;
        for (int kind = 0; kind < 6; kind++) {
            Clay k = JAR_KINDS.get(kind);
            if (w.marks.stream().filter(n -> n[0] == j).allMatch(n -> k.loses(n[1], n[2]) == n[3])) {
                bits += 1 << kind;
            }
        }
        return bits;
    }

    private static int mostAlike(List<Integer> values) {
        Map<Integer, Integer> tally = new HashMap<>();
        values.forEach(v -> tally.merge(v, 1, Integer::sum));
        return tally.values().stream().max(Integer::compare).orElse(0);
    }

    int look(int i) {
        if (noCaster(i)) {
            return bad();
        }
        int bits = isBits(i);
        int best = -1;
        int fewest = 99;
        for (int t = 0; t < 24 && bits != 0; t++) {
            List<Integer> values = new ArrayList<>();
            for (int kind = 0; kind < 6; kind++) {
                if ((bits >> kind) % 2 == 1) {
                    values.add(CASTER_KINDS.get(kind).gives(w.casters.get(i).height, t));
                }
            }
            if (mostAlike(values) < fewest) {
                fewest = mostAlike(values);
                best = t;
            }
        }
        return best;
    }

    int ask(int j) {
        if (noJar(j)) {
            return bad();
        }
        int bits = whatBits(j);
        int best = -1;
        int fewest = 99;
        for (int ct = 0; ct < 61 * 24 && bits != 0; ct++) {
            List<Integer> values = new ArrayList<>();
            for (int kind = 0; kind < 6; kind++) {
                if ((bits >> kind) % 2 == 1) {
                    values.add(JAR_KINDS.get(kind).loses(ct / 24, ct % 24));
                }
            }
            if (mostAlike(values) < fewest) {
                fewest = mostAlike(values);
                best = ct / 24 * 100 + ct % 24;
            }
        }
        return best;
    }

    private int gets(int own, int other) {
        int g = w.casters.get(own).gives(w.hour);
        return own == other ? g / 2 - 1 : g + (w.casters.get(own).taste != w.casters.get(other).taste ? 2 : 0);
    }

    int two(int k) {
        if (k < -1) {
            bad();
            return -10;
        }
        List<Integer> free = new ArrayList<>();
        for (int i = 0; i < w.casters.size(); i++) {
            if (!w.casters.get(i).milked) {
                free.add(i);
            }
        }
        List<Integer> pairs = new ArrayList<>();
        for (int i : free) {
            for (int j : free) {
                if (free.stream().noneMatch(o -> gets(o, j) > gets(i, j)) && free.stream().noneMatch(o -> gets(o, i) > gets(j, i))) {
                    pairs.add(10 * i + j);
                }
            }
        }
        return k == -1 ? pairs.size() : k < pairs.size() ? pairs.get(k) : -5;
    }

    /** Of 10 to the power of the ladles that are left. */
    private BigInteger chance(World from, int[] row, int at, int x, int c) {
        if (at == row.length) {
            return from.jars.get(0).cool >= x ? BigInteger.ONE : BigInteger.ZERO;
        }
        World dry = from.copy();
        dry.passHour();
        if (row[at] == -1) {
            return chance(dry, row, at + 1, x, c).multiply(BigInteger.TEN);
        }
        World wet = from.copy();
        wet.ladle(row[at], 0);
        wet.passHour();
        return chance(dry, row, at + 1, x, c).multiply(BigInteger.valueOf(c))
            .add(chance(wet, row, at + 1, x, c).multiply(BigInteger.valueOf(10 - c)));
    }

    int spilt(int j, int n, int x, int c) {
        if (noJar(j) || out(n, 0, 4) || out(x, 0, 60) || out(c, 0, 10)) {
            return bad();
        }
        findRound(j, n);
        World from = w.copy();
        from.jars = new ArrayList<>(List.of(w.jars.get(j).copy()));
        BigInteger up = chance(from, bestRow, 0, x, c);
        BigInteger down = BigInteger.TEN.pow(n);
        BigInteger g = up.gcd(down);
        above = up.divide(g);
        below = down.divide(g);
        return 1;
    }

    int noons(int seed, int n) {
        if (out(seed, 0, 999999) || out(n, 0, 60)) {
            return bad();
        }
        World then = w.copy();
        BigInteger x = BigInteger.valueOf(seed);
        for (int k = 0; k < n; k++) {
            x = x.multiply(new BigInteger("1103515245")).add(new BigInteger("12345")).mod(new BigInteger("2147483648"));
            int i = x.divide(BigInteger.valueOf(65536)).mod(BigInteger.valueOf(7)).intValue();
            int j = x.divide(BigInteger.valueOf(1048576)).mod(BigInteger.valueOf(4)).intValue();
            if (i < then.casters.size() && j < then.jars.size() && !then.casters.get(i).milked) {
                then.ladle(i, j);
            }
            if (!x.divide(BigInteger.valueOf(16384)).testBit(0)) {
                then.passHour();
            }
        }
        return then.cool();
    }

    // ---- what there is

    int image(int i) {
        if (out(i, 0, 1)) {
            return bad();
        }
        images[i] = w.copy();
        return 1;
    }

    int from(int i) {
        if (out(i, 0, 1)) {
            return bad();
        }
        if (images[i] == null) {
            return no();
        }
        w = images[i].copy();
        return 1;
    }

    int statusOf(int what) {
        if (out(what, 0, 2)) {
            bad();
            return -1;
        }
        return status[what];
    }

    int count(int what) {
        long milked = w.casters.stream().filter(c -> c.milked).count();
        return new int[] {w.casters.size(), w.jars.size(), w.cool(), w.hour, (int) milked, w.sold,
            w.notes.size(), w.marks.size(), w.past.size(), text.length()}[what];
    }

    long digest() {
        List<Long> values = new ArrayList<>();
        for (int what = 0; what < 10; what++) {
            values.add((long) count(what));
        }
        w.casters.forEach(c -> addAll(values, c.kind, c.height, c.taste, c.milked ? 1 : 0));
        w.jars.forEach(j -> addAll(values, j.kind, j.cool, j.taste));
        w.notes.forEach(n -> addAll(values, n));
        w.marks.forEach(n -> addAll(values, n));
        values.add(above.longValueExact());
        values.add(below.longValueExact());
        return values.stream().reduce(1879L, (h, v) -> 31 * h + v);
    }

    private static void addAll(List<Long> values, int... more) {
        Arrays.stream(more).forEach(v -> values.add((long) v));
    }
}
