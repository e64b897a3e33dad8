/**
 * The limits of each number of each call, at the limit and on both sides of it; what is refused, in which order, and
 * that it changes nothing but STATUS.
 */
public final class NumbersEdgesTest {
    private static final Check CHECK = new Check();
    private static final int MIN = Integer.MIN_VALUE, MAX = Integer.MAX_VALUE;

    public static void main(String[] args) {
        for (int[] there : new int[][] {{0, 0}, {1, 1}, {2, 3}, {7, 4}}) {
            everyNumber(there[0], there[1]);
        }
        roundAndTwo();
        alikePouring();
        badAheadOfNo();
        badAheadOfFull();
        noChangesNothing();
        fullChangesNothing();
        lastCall();
        CHECK.finish("NumbersEdgesTest");
    }

    private static void due(String call, long got, long want) {
        CHECK.due(call, got, want);
    }

    /** An island with so many casters and jars, with something in every row, and both images kept. */
    private static NoonShade there(int casters, int jars) {
        NoonShade x = new NoonShade();
        x.island(11);
        x.hours(1);
        x.image(0);
        for (int i = 0; i < casters; i++) {
            // no cloud among those that fill the jars: it gives nothing at noon
            x.caster(i < 3 ? i : 8 - i, 9 - i, i % 4);
        }
        for (int j = 0; j < jars; j++) {
            x.jar(j + 2);
        }
        for (int j = 0; j < jars; j++) {
            x.ladle(j, j);
        }
        x.hours(1);
        x.note(0, 9, 11, 5);
        x.mark(0, 9, 11, 5);
        x.image(1);
        x.ladle(0, 0);
        x.spilt(0, 1, 10, 3);
        Check.type(x, "island 5;jar 1;hours 3;");
        return x;
    }

    private static void everyNumber(int casters, int jars) {
        int i = casters - 1;
        int j = jars - 1;
        limits(casters, jars, "island", new int[][] {{0, 99}});
        limits(casters, jars, "caster", new int[][] {{0, 5}, {1, 9}, {0, 3}});
        limits(casters, jars, "jar", new int[][] {{0, 5}});
        limits(casters, jars, "type", new int[][] {{0, 127}});
        limits(casters, jars, "ladle", new int[][] {{0, i}, {0, j}});
        limits(casters, jars, "sells", new int[][] {{0, j}});
        limits(casters, jars, "hours", new int[][] {{1, 60}});
        limits(casters, jars, "of", new int[][] {{0, i}, {0, 4}});
        limits(casters, jars, "about", new int[][] {{0, j}, {0, 3}});
        limits(casters, jars, "gives", new int[][] {{0, i}, {0, 60}});
        limits(casters, jars, "keeps", new int[][] {{0, j}, {0, 60}});
        limits(casters, jars, "when", new int[][] {{0, i}});
        limits(casters, jars, "gone", new int[][] {{0, j}});
        limits(casters, jars, "few", new int[][] {{0, j}, {0, 3}, {1, 60}, {0, 1}});
        limits(casters, jars, "into", new int[][] {{0, j}, {1, 30}, {0, 1}});
        limits(casters, jars, "note", new int[][] {{0, i}, {1, 9}, {0, 23}, {0, 40}});
        limits(casters, jars, "mark", new int[][] {{0, j}, {0, 60}, {0, 23}, {0, 60}});
        limits(casters, jars, "forget", new int[][] {{0, 1}});
        limits(casters, jars, "is", new int[][] {{0, i}});
        limits(casters, jars, "look", new int[][] {{0, i}});
        limits(casters, jars, "kinds", new int[][] {{0, j}});
        limits(casters, jars, "ask", new int[][] {{0, j}});
        limits(casters, jars, "spilt", new int[][] {{0, j}, {0, 4}, {0, 60}, {0, 10}});
        limits(casters, jars, "noons", new int[][] {{0, 999999}, {0, 60}});
        limits(casters, jars, "part", new int[][] {{0, 1}});
        limits(casters, jars, "image", new int[][] {{0, 1}});
        limits(casters, jars, "from", new int[][] {{0, 1}});
        limits(casters, jars, "status", new int[][] {{0, 2}});
        limits(casters, jars, "count", new int[][] {{0, 9}});
    }

    /** Each number at its limits with the others in theirs; what is not there (0 .. -1) makes every call BAD. */
    private static void limits(int casters, int jars, String name, int[][] ranges) {
        boolean can = true;
        for (int[] range : ranges) {
            can &= range[0] <= range[1];
        }
        for (int place = 0; place < ranges.length; place++) {
            int low = ranges[place][0];
            int high = ranges[place][1];
            // 1 << 20 more: a byte, a short or a char would take it for the number itself
            for (int v : new int[] {low - 1, low - 2, high + 1, high + 2, low + (1 << 20), low - (1 << 20), MIN, MIN + 1, MAX, MAX - 1}) {
                refusedAsBad(casters, jars, name, with(ranges, place, v));
            }
            for (int v : new int[] {low, high, (low + high) / 2}) {
                if (can) {
                    isNotBad(casters, jars, name, with(ranges, place, v));
                } else {
                    refusedAsBad(casters, jars, name, with(ranges, place, v));
                }
            }
        }
        everyNumberBad(casters, jars, name, ranges);
    }

    private static int[] with(int[][] ranges, int place, int v) {
        int[] a = new int[ranges.length];
        for (int k = 0; k < a.length; k++) {
            a[k] = ranges[k][0];
        }
        a[place] = v;
        return a;
    }

    private static void everyNumberBad(int casters, int jars, String name, int[][] ranges) {
        int[] below = new int[ranges.length];
        int[] above = new int[ranges.length];
        for (int k = 0; k < ranges.length; k++) {
            below[k] = ranges[k][0] - 1;
            above[k] = ranges[k][1] + 1;
        }
        refusedAsBad(casters, jars, name, below);
        refusedAsBad(casters, jars, name, above);
    }

    private static void refusedAsBad(int casters, int jars, String name, int... a) {
        refusedAsBad(there(casters, jars), there(casters, jars), name.equals("status") ? -1 : -2, name, a);
    }

    private static void refusedAsBad(NoonShade x, NoonShade twin, int answer, String name, int... a) {
        String call = Calls.told(name, a) + " with " + x.count(0) + " casters and " + x.count(1) + " jars";
        int bads = x.status(0);
        int noes = x.status(1);
        int fulls = x.status(2);
        due(call, Calls.ask(x, name, a), answer);
        due(call + ": one more is BAD", x.status(0), bads + 1);
        due(call + ": none is NO", x.status(1), noes);
        due(call + ": none is FULL", x.status(2), fulls);
        CHECK.holds(call + ": nothing is changed", Calls.allOf(x).equals(Calls.allOf(twin)));
    }

    private static void isNotBad(int casters, int jars, String name, int... a) {
        NoonShade x = there(casters, jars);
        int bads = x.status(0);
        long answer = Calls.ask(x, name, a);
        String call = Calls.told(name, a) + " with " + casters + " casters and " + jars + " jars";
        CHECK.holds(call + " answered " + answer, name.equals("status") || answer != -2);
        due(call + ": none more is BAD", x.status(0), bads);
    }

    /** BAD is -10 there, and -5 is no refusal. */
    private static void roundAndTwo() {
        for (int[] t : new int[][] {{0, 0}, {1, 1}, {7, 4}}) {
            for (int[] bad : new int[][] {{-1, 1, -2}, {t[1], 1, -2}, {MIN, 1, 0}, {MAX, 4, 0}, {0, 0, -2}, {0, 5, -2}, {0, -1, 0},
                {0, MIN, -2}, {0, MAX, 0}, {0, 1, -1}, {0, 1, -3}, {0, 4, -1}, {0, 4, -3}, {0, 4, MIN}, {0, 0, 0}, {0, 5, 5}, {t[1], 1, 1}}) {
                refusedAsBad(there(t[0], t[1]), there(t[0], t[1]), -10, "round", bad);
            }
            for (int bad : new int[] {-2, -3, -10, MIN}) {
                refusedAsBad(there(t[0], t[1]), there(t[0], t[1]), -10, "two", bad);
            }
        }
        NoonShade x = there(2, 2);
        int before = Calls.refusals(x);
        for (int n = 1; n <= 4; n++) {
            CHECK.holds("19 n " + n + ", how much", x.round(0, n, -2) >= 0);
            CHECK.holds("19 n " + n + ", the first", x.round(0, n, 0) >= -1);
            CHECK.holds("19 n " + n + ", the last", x.round(1, n, n - 1) >= -1);
            due("19 n " + n + ", one behind the last", x.round(0, n, n), -5);
            due("19 n " + n + ", far behind the last", x.round(0, n, MAX), -5);
        }
        int pairs = x.two(-1);
        CHECK.holds("29 there are pairs", pairs > 0);
        CHECK.holds("29 the last pair", x.two(pairs - 1) >= 0);
        due("29 one behind the last", x.two(pairs), -5);
        due("29 far behind the last", x.two(MAX), -5);
        due("35 none of these is refused", Calls.refusals(x), before);
    }

    private static void alikePouring() {
        for (int j = 0; j < 4; j++) {
            for (int k = -1; k <= 4; k++) {
                boolean bad = j == k || k < 0 || k > 3;
                if (bad) {
                    refusedAsBad(there(7, 4), there(7, 4), -2, "pours", j, k);
                    refusedAsBad(there(7, 4), there(7, 4), -2, "pours", k, j);
                } else {
                    CHECK.holds("9 pours(" + j + ", " + k + ")", there(7, 4).pours(j, k) >= 0);
                }
            }
        }
        for (int[] bad : new int[][] {{0, 0}, {1, 1}, {0, 1}, {MIN, 0}, {0, MAX}}) {
            refusedAsBad(there(0, 1), there(0, 1), -2, "pours", bad);
        }
    }

    /** What would be NO is BAD, if a number is not as told, too. */
    private static void badAheadOfNo() {
        NoonShade x = Check.island(12, new int[][] {{1, 9, 0}}, 0, 0);
        x.ladle(0, 0);
        due("8 milked, no such jar", x.ladle(0, 2), -2);
        due("8 milked, no such jar", x.ladle(0, -1), -2);
        due("9 it has nothing, into itself", x.pours(1, 1), -2);
        due("9 it has nothing, no such jar", x.pours(1, 2), -2);
        due("9 no such jar, into itself", x.pours(2, 2), -2);
        due("10 no such jar has nothing", x.sells(2), -2);
        due("34 no such image was kept", x.from(2), -2);
        due("34 no such image was kept", x.from(-1), -2);
        due("35 all are BAD", x.status(0), 8);
        due("35 none is NO", x.status(1), 0);
    }

    private static NoonShade fullOfAll() {
        NoonShade x = there(7, 4);
        for (int k = 1; k < 6; k++) {
            x.note(k, 1, 1, 1);
            x.mark(k % 4, 1, 1, 1);
        }
        for (int k = x.count(9); k < 150; k++) {
            x.type(' ');
        }
        return x;
    }

    /** What would be FULL is BAD, if a number is not as told, too. */
    private static void badAheadOfFull() {
        Object[][] calls = {{"caster", new int[] {6, 1, 0}}, {"caster", new int[] {0, 0, 0}}, {"caster", new int[] {0, 10, 0}},
            {"caster", new int[] {0, 1, 4}}, {"caster", new int[] {-1, 1, 0}}, {"jar", new int[] {6}}, {"jar", new int[] {-1}},
            {"type", new int[] {128}}, {"type", new int[] {-1}}, {"note", new int[] {7, 1, 0, 0}}, {"note", new int[] {0, 10, 0, 0}},
            {"note", new int[] {0, 1, 24, 0}}, {"note", new int[] {0, 1, 0, 41}}, {"mark", new int[] {4, 0, 0, 0}},
            {"mark", new int[] {0, 61, 0, 0}}, {"mark", new int[] {0, 0, 24, 0}}, {"mark", new int[] {0, 0, 0, 61}}};
        for (Object[] c : calls) {
            refusedAsBad(fullOfAll(), fullOfAll(), -2, (String) c[0], (int[]) c[1]);
        }
    }

    private static void noChangesNothing() {
        refusedAs(1, there(2, 3), there(2, 3), -3, "ladle", 0, 1);
        refusedAs(1, there(2, 2), there(2, 2), -3, "ladle", 0, 0);
        refusedAs(1, there(0, 2), there(0, 2), -3, "pours", 0, 1);
        refusedAs(1, there(0, 1), there(0, 1), -3, "sells", 0);
        refusedAs(1, new NoonShade(), new NoonShade(), -3, "undo");
        refusedAs(1, new NoonShade(), new NoonShade(), -3, "from", 0);
        refusedAs(1, new NoonShade(), new NoonShade(), -3, "from", 1);
    }

    private static void fullChangesNothing() {
        refusedAs(2, fullOfAll(), fullOfAll(), -4, "caster", 0, 1, 0);
        refusedAs(2, fullOfAll(), fullOfAll(), -4, "jar", 0);
        refusedAs(2, fullOfAll(), fullOfAll(), -4, "type", 65);
        refusedAs(2, fullOfAll(), fullOfAll(), -4, "note", 0, 1, 0, 1);
        refusedAs(2, fullOfAll(), fullOfAll(), -4, "mark", 0, 0, 0, 1);
    }

    private static void refusedAs(int what, NoonShade x, NoonShade twin, int answer, String name, int... a) {
        String call = Calls.told(name, a);
        int[] before = {x.status(0), x.status(1), x.status(2)};
        before[what]++;
        due(call, Calls.ask(x, name, a), answer);
        for (int k = 0; k <= 2; k++) {
            due(call + ": status(" + k + ")", x.status(k), before[k]);
        }
        CHECK.holds(call + ": nothing is changed", Calls.allOf(x).equals(Calls.allOf(twin)));
    }

    /** 512 calls may be made, the last one, too. */
    private static void lastCall() {
        NoonShade x = new NoonShade();
        for (int k = 1; k <= 511; k++) {
            x.jar(6);
        }
        due("the 512th call", x.status(0), 511);
        NoonShade y = new NoonShade();
        y.island(99);
        for (int k = 2; k <= 511; k++) {
            y.hours(1);
        }
        due("the 512th call, of hours", y.hours(1), 99 + 511);
    }
}
