/** Promises 22 to 31: note, mark, forget, is, look, kinds, ask, two, spilt, noons. */
public final class WhatItIsTest {
    private static final Check CHECK = new Check();

    public static void main(String[] args) {
        note();
        mark();
        forget();
        is();
        look();
        kinds();
        ask();
        two();
        spilt();
        spiltRefused();
        noons();
        CHECK.finish("WhatItIsTest");
    }

    private static void due(String call, long got, long want) {
        CHECK.due(call, got, want);
    }

    private static void note() {
        NoonShade x = Check.island(0, new int[][] {{0, 1, 0}, {1, 1, 0}});
        int[][] bad = {{2, 1, 0, 0}, {-1, 1, 0, 0}, {0, 0, 0, 0}, {0, 10, 0, 0}, {0, 1, -1, 0}, {0, 1, 24, 0}, {0, 1, 0, -1}, {0, 1, 0, 41}};
        for (int[] b : bad) {
            due("22 bad", x.note(b[0], b[1], b[2], b[3]), -2);
        }
        for (int k = 0; k < 6; k++) {
            due("22 note " + k, x.note(k % 2, 9, 23, 40), k + 1);
        }
        due("22 full", x.note(0, 1, 0, 0), -4);
        due("22 full, and bad", x.note(2, 1, 0, 0), -2);
        due("22 notes", x.count(6), 6);
        due("22 bads", x.status(0), bad.length + 1);
        due("22 fulls", x.status(2), 1);
    }

    private static void mark() {
        NoonShade x = Check.island(0, new int[][] {}, 0, 1);
        int[][] bad = {{2, 1, 0, 0}, {-1, 1, 0, 0}, {0, -1, 0, 0}, {0, 61, 0, 0}, {0, 1, -1, 0}, {0, 1, 24, 0}, {0, 1, 0, -1}, {0, 1, 0, 61}};
        for (int[] b : bad) {
            due("23 bad", x.mark(b[0], b[1], b[2], b[3]), -2);
        }
        for (int k = 0; k < 6; k++) {
            due("23 mark " + k, x.mark(k % 2, 60, 23, 60), k + 1);
        }
        due("23 full", x.mark(0, 0, 0, 0), -4);
        due("23 full, and bad", x.mark(2, 0, 0, 0), -2);
        due("23 marks", x.count(7), 6);
        due("23 bads", x.status(0), bad.length + 1);
        due("23 fulls", x.status(2), 1);
    }

    private static void forget() {
        NoonShade x = Check.island(0, new int[][] {{0, 1, 0}}, 0);
        x.note(0, 1, 0, 0);
        x.note(0, 1, 0, 0);
        x.mark(0, 1, 0, 0);
        due("24 bad", x.forget(2), -2);
        due("24 bad", x.forget(-1), -2);
        due("24 notes", x.forget(0), 2);
        due("24 none", x.count(6), 0);
        due("24 a mark is left", x.count(7), 1);
        due("24 again", x.forget(0), 0);
        due("24 marks", x.forget(1), 1);
        due("24 none", x.count(7), 0);
        due("24 all kinds again", x.is(0) + x.kinds(0), 126);
        due("24 bads", x.status(0), 2);
    }

    private static void is() {
        NoonShade x = Check.island(0, new int[][] {{0, 9, 0}, {1, 9, 0}});
        due("25 no notes", x.is(0), 63);
        x.note(0, 9, 0, 5);
        due("25 wall, tree", x.is(0), 3);
        due("25 not the other one's", x.is(1), 63);
        x.note(0, 4, 12, 6);
        due("25 tree", x.is(0), 2);
        x.note(0, 4, 12, 2);
        due("25 no kind", x.is(0), 0);
        x.note(1, 8, 13, 8);
        due("25 a cloud", x.is(1), 8);
        x.forget(0);
        x.note(0, 9, 9, 0);
        due("25 a cloud that gave nothing", x.is(0), 8);
        x.note(1, 1, 9, 4);
        due("25 man or pergola", x.is(1), 48);
        due("25 bad", x.is(2), -2);
        due("25 bad", x.is(-1), -2);
        due("25 bads", x.status(0), 2);
    }

    private static void look() {
        NoonShade x = Check.island(0, new int[][] {{0, 9, 0}, {0, 1, 0}});
        due("26 all kinds of height 9", x.look(0), 11);
        due("26 all kinds of height 1", x.look(1), 0);
        x.note(0, 9, 0, 5);
        due("26 wall or tree", x.look(0), 11);
        x.note(0, 9, 12, 14);
        due("26 one kind", x.look(0), 0);
        x.note(0, 9, 12, 0);
        due("26 no kind", x.look(0), -1);
        x.note(1, 1, 9, 4);
        due("26 man or pergola of height 1", x.look(1), 0);
        due("26 bad", x.look(2), -2);
        due("26 bad", x.look(-1), -2);
        due("26 none is not refused", x.status(0), 2);
    }

    private static void kinds() {
        NoonShade x = Check.island(0, new int[][] {}, 0, 1);
        due("27 no marks", x.kinds(0), 63);
        x.mark(0, 0, 6, 1);
        due("27 as the kind says, more than it has", x.kinds(0), 37);
        due("27 not the other one's", x.kinds(1), 63);
        x.mark(0, 20, 6, 1);
        due("27 not a cellar", x.kinds(0), 5);
        x.mark(0, 20, 5, 0);
        due("27 stone", x.kinds(0), 4);
        x.mark(0, 20, 5, 9);
        due("27 no kind", x.kinds(0), 0);
        x.mark(1, 5, 0, 3);
        due("27 glass, cracked, wicker", x.kinds(1), 26);
        x.mark(1, 10, 0, 4);
        due("27 cracked", x.kinds(1), 8);
        due("27 bad", x.kinds(2), -2);
        due("27 bad", x.kinds(-1), -2);
        due("27 bads", x.status(0), 2);
    }

    private static void ask() {
        NoonShade x = Check.island(0, new int[][] {}, 0, 1);
        due("28 all kinds", x.ask(0), 100);
        x.mark(0, 0, 6, 1);
        // clay, stone, cellar: two alike at best until 20, and still then (1, 1, 0; 1, 0, 0)
        due("28 two alike at best", x.ask(0), 0);
        x.mark(0, 20, 6, 1);
        due("28 clay or stone", x.ask(0), 0);
        x.mark(1, 0, 23, 3);
        due("28 glass or cracked", x.ask(1), 1000);
        x.mark(1, 10, 23, 3);
        due("28 glass", x.ask(1), 0);
        x.mark(1, 10, 23, 4);
        due("28 no kind", x.ask(1), -1);
        due("28 bad", x.ask(2), -2);
        due("28 bad", x.ask(-1), -2);
        due("28 none is not refused", x.status(0), 2);
    }

    private static void two() {
        NoonShade x = Check.island(12, new int[][] {{0, 9, 0}, {0, 9, 0}, {0, 3, 1}}, 0);
        // by hand: 0 and 1 give 5, 2 gives 2, and two more for another taste: 7, 4; the same: 1, 1, 0
        // (0, 1) 5 and 5: neither gains by 2 (4); (0, 2): 7 and 4, the second would take 1 and get 5
        due("29 pairs", x.two(-1), 2);
        due("29 first", x.two(0), 1);
        due("29 second", x.two(1), 10);
        due("29 not so many", x.two(2), -5);
        due("29 not so many", x.two(Integer.MAX_VALUE), -5);
        x.ladle(0, 0);
        due("29 without the milked one", x.two(-1), 2);
        due("29 first", x.two(0), 12);
        due("29 second", x.two(1), 21);
        x.ladle(1, 0);
        due("29 one left: the same", x.two(-1), 1);
        due("29 the pair", x.two(0), 22);
        x.ladle(2, 0);
        due("29 none left", x.two(-1), 0);
        due("29 not so many", x.two(0), -5);
        due("29 none of these is refused", x.status(0), 0);
        due("29 bad", x.two(-2), -10);
        due("29 bad", x.two(Integer.MIN_VALUE), -10);
        due("29 bads", x.status(0), 2);
        // 9: half of 17 less 1 is 7, a wall of 9 gives 5 and 2: like it, so all but two walls rest
        NoonShade y = Check.island(12, new int[][] {{5, 9, 0}, {0, 9, 1}});
        due("29 like ones rest", y.two(-1), 3);
        due("29 the same", y.two(0), 0);
        due("29 (0, 1)", y.two(1), 1);
        due("29 (1, 0)", y.two(2), 10);
        NoonShade early = Check.island(10, new int[][] {{5, 9, 0}, {0, 9, 1}});
        due("29 what it gives now, not an hour on", early.two(-1), 2);
        NoonShade z = Check.island(12, new int[][] {{5, 9, 0}, {0, 9, 0}});
        due("29 alike tastes: only the same", z.two(-1), 1);
        due("29 the same", z.two(0), 0);
    }

    private static void fraction(NoonShade x, String call, int got, long above, long below) {
        due(call, got, 1);
        due(call + " above", x.part(0), above);
        due(call + " below", x.part(1), below);
    }

    private static void spilt() {
        NoonShade x = Check.island(11, new int[][] {{0, 9, 0}, {1, 9, 0}}, 0);
        // the round takes 1 at 11 and at 12: 14, 13, 27, 26
        fraction(x, "30 both", x.spilt(0, 2, 26, 3), 49, 100);
        fraction(x, "30 the second is enough for 13", x.spilt(0, 2, 13, 3), 7, 10);
        fraction(x, "30 either is enough for 12", x.spilt(0, 2, 12, 3), 91, 100);
        fraction(x, "30 none is enough for 0", x.spilt(0, 2, 0, 3), 1, 1);
        fraction(x, "30 too much", x.spilt(0, 2, 27, 3), 0, 1);
        fraction(x, "30 surely spilt", x.spilt(0, 2, 1, 10), 0, 1);
        fraction(x, "30 never spilt", x.spilt(0, 2, 26, 0), 1, 1);
        NoonShade dawn = Check.island(4, new int[][] {{3, 9, 0}}, 2);
        fraction(dawn, "30 at 4, 5 and 6", dawn.spilt(0, 3, 19, 2), 16, 25);
        fraction(dawn, "30 at 4, 5 and 6", dawn.spilt(0, 3, 20, 2), 0, 1);
        fraction(x, "30 by halves", x.spilt(0, 2, 12, 5), 3, 4);
        fraction(x, "30 four", x.spilt(0, 4, 1, 1), 9999, 10000);
        fraction(x, "30 no round", x.spilt(0, 0, 1, 1), 0, 1);
        fraction(x, "30 no round", x.spilt(0, 0, 0, 1), 1, 1);
        due("30 nothing else changed", x.count(4), 0);
        x.ladle(0, 0);
        x.ladle(1, 0);
        fraction(x, "30 none to draw from: 18 stay", x.spilt(0, 1, 18, 9), 1, 1);
        fraction(x, "30 no more", x.spilt(0, 1, 19, 0), 0, 1);
        fraction(x, "30 the hour after, one", x.spilt(0, 2, 18, 4), 3, 5);
    }

    private static void spiltRefused() {
        NoonShade x = Check.island(11, new int[][] {{0, 9, 0}}, 0);
        x.spilt(0, 1, 4, 3);
        int[][] bad = {{1, 0, 0, 0}, {-1, 0, 0, 0}, {0, -1, 0, 0}, {0, 5, 0, 0}, {0, 0, -1, 0}, {0, 0, 61, 0}, {0, 0, 0, -1}, {0, 0, 0, 11}};
        for (int[] b : bad) {
            due("30 bad", x.spilt(b[0], b[1], b[2], b[3]), -2);
        }
        due("30 bads", x.status(0), bad.length);
        due("30 the fraction stays", x.part(0), 7);
        due("30 the fraction stays", x.part(1), 10);
    }

    private static void noons() {
        int[][] casters = {{1, 9, 0}, {5, 8, 1}, {4, 7, 2}, {3, 6, 3}, {2, 9, 0}, {0, 9, 1}, {1, 1, 2}};
        for (int seed : new int[] {0, 1, 42, 777777, 999999}) {
            NoonShade x = Check.island(12, casters, 0, 5, 2, 4);
            long before = x.digest();
            for (int n : new int[] {0, 1, 7, 60}) {
                x.image(0);
                due("31 seed " + seed + ", " + n, x.noons(seed, n), noonsByCalls(x, seed, n));
                x.from(0);
                due("31 nothing changed", x.digest(), before);
            }
        }
        NoonShade few = Check.island(12, new int[][] {{1, 9, 0}}, 0);
        few.image(0);
        due("31 where few are there", few.noons(5, 60), noonsByCalls(few, 5, 60));
        due("31 no casters, no jars", new NoonShade().noons(5, 60), 0);
        due("31 bad", few.noons(-1, 0), -2);
        due("31 bad", few.noons(1000000, 0), -2);
        due("31 bad", few.noons(0, -1), -2);
        due("31 bad", few.noons(0, 61), -2);
        due("31 bads", few.status(0), 4);
    }

    /** The same noons by ladle and hours, which refuse what is not there or is milked. */
    private static int noonsByCalls(NoonShade asked, int seed, int n) {
        NoonShade x = new NoonShade();
        x.island(asked.count(3));
        for (int i = 0; i < asked.count(0); i++) {
            x.caster(asked.of(i, 0), asked.of(i, 1), asked.of(i, 2));
        }
        for (int j = 0; j < asked.count(1); j++) {
            x.jar(asked.about(j, 0));
        }
        java.math.BigInteger state = java.math.BigInteger.valueOf(seed);
        for (int k = 0; k < n; k++) {
            state = state.multiply(java.math.BigInteger.valueOf(1103515245)).add(java.math.BigInteger.valueOf(12345))
                .mod(java.math.BigInteger.ONE.shiftLeft(31));
            int value = state.intValueExact();
            x.ladle((value >> 16) % 7, (value >> 20) % 4);
            if ((value >> 14) % 2 == 0) {
                x.hours(1);
            }
        }
        return x.count(2);
    }
}
