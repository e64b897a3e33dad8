/** Promises 15 to 21: gives, keeps, when, gone, round, few, into. */
public final class HowMuchTest {
    private static final Check CHECK = new Check();

    public static void main(String[] args) {
        gives();
        keeps();
        when();
        gone();
        round();
        roundRefused();
        roundByCalls();
        few();
        into();
        CHECK.finish("HowMuchTest");
    }

    private static void due(String call, long got, long want) {
        CHECK.due(call, got, want);
    }

    private static void gives() {
        // by hour of a day, of height 7: a wall gives 4
        int[][] rows = {
            {4, 4, 4, 4, 4, 4, 4, 4, 4, 4, 4, 4, 4, 4, 4, 4, 4, 4, 4, 4, 4, 4, 4, 4},
            {4, 4, 4, 4, 4, 4, 4, 4, 4, 4, 4, 11, 11, 11, 4, 4, 4, 4, 4, 4, 4, 4, 4, 4},
            {2, 2, 2, 2, 2, 2, 2, 2, 2, 2, 2, 5, 5, 5, 2, 2, 2, 2, 2, 2, 2, 2, 2, 2},
            {0, 8, 8, 0, 8, 8, 0, 8, 8, 0, 8, 8, 0, 8, 8, 0, 8, 8, 0, 8, 8, 0, 8, 8},
            {13, 13, 13, 13, 12, 11, 10, 9, 8, 7, 6, 5, 4, 5, 6, 7, 8, 9, 10, 11, 12, 13, 13, 13},
            {7, 7, 7, 7, 7, 7, 7, 7, 7, 7, 7, 14, 14, 14, 7, 7, 7, 7, 7, 7, 7, 7, 7, 7}};
        for (int kind = 0; kind < 6; kind++) {
            NoonShade x = Check.island(95, new int[][] {{kind, 7, 0}});
            long before = x.digest();
            for (int m = 0; m <= 60; m++) {
                due("15 kind " + kind + " behind " + m, x.gives(0, m), rows[kind][(95 + m) % 24]);
            }
            due("15 nothing changed", x.digest(), before);
            due("15 bad", x.gives(0, -1), -2);
            due("15 bad", x.gives(0, 61), -2);
            due("15 bad", x.gives(1, 0), -2);
            due("15 bad", x.gives(-1, 0), -2);
            due("15 bads", x.status(0), 4);
        }
        for (int h = 1; h <= 9; h++) {
            NoonShade x = Check.island(13, new int[][] {{0, h, 0}, {2, h, 0}});
            due("15 a wall of " + h, x.gives(0, 0), h - h / 2);
            due("15 a fig of " + h, x.gives(1, 0), (h - h / 2 + h) / 2);
        }
    }

    private static void keeps() {
        NoonShade x = Check.island(12, new int[][] {{5, 9, 0}, {5, 9, 0}}, 0, 4);
        x.ladle(0, 0);
        x.ladle(1, 1);
        long before = x.digest();
        for (int m = 0; m <= 60; m++) {
            due("16 clay behind " + m, x.keeps(0, m), Math.max(0, 17 - m));
        }
        due("16 wicker", x.keeps(1, 0), 17);
        due("16 wicker", x.keeps(1, 1), 8);
        due("16 wicker", x.keeps(1, 2), 4);
        due("16 wicker", x.keeps(1, 5), 0);
        due("16 nothing changed", x.digest(), before);
        due("16 bad", x.keeps(0, -1), -2);
        due("16 bad", x.keeps(0, 61), -2);
        due("16 bad", x.keeps(2, 0), -2);
        due("16 bad", x.keeps(-1, 0), -2);
        due("16 bads", x.status(0), 4);
        NoonShade y = Check.island(20, new int[][] {{0, 9, 0}}, 2);
        y.ladle(0, 0);
        due("16 stone over a night", y.keeps(0, 10), 1);
        due("16 and then", y.keeps(0, 11), 0);
    }

    private static void when() {
        NoonShade x = Check.island(14, new int[][] {{0, 9, 0}, {1, 9, 0}, {3, 9, 0}, {4, 1, 0}});
        due("17 a wall, at once", x.when(0), 0);
        due("17 a tree, tomorrow at 11", x.when(1), 21);
        due("17 a cloud, at once", x.when(2), 0);
        due("17 a man, at 21", x.when(3), 7);
        x.hours(1);
        due("17 a cloud, an hour on", x.when(2), 1);
        due("17 bad", x.when(4), -2);
        due("17 bad", x.when(-1), -2);
        due("17 bads", x.status(0), 2);
        NoonShade y = Check.island(4, new int[][] {{4, 1, 0}});
        due("17 a man of the evening", y.when(0), 17);
    }

    private static void gone() {
        NoonShade x = Check.island(12, new int[][] {{5, 9, 0}, {5, 9, 0}, {0, 9, 0}}, 0, 5, 2, 1);
        due("18 empty", x.gone(0), 0);
        x.ladle(0, 0);
        due("18 clay", x.gone(0), 17);
        x.ladle(1, 1);
        x.pours(0, 1);
        due("18 a cellar with 34 never", x.gone(1), -1);
        x.ladle(2, 3);
        due("18 glass", x.gone(3), 2);
        // stone loses 18 a day: 12 until midnight, then none until six
        x.pours(1, 2);
        due("18 stone: 12, then 18, then 4", x.gone(2), 46);
        due("18 bad", x.gone(4), -2);
        due("18 bad", x.gone(-1), -2);
        due("18 bads", x.status(0), 2);
        NoonShade y = Check.island(0, new int[][] {{5, 9, 0}, {5, 9, 0}, {5, 9, 0}, {5, 9, 0}}, 0);
        for (int k = 0; k < 5; k++) {
            y.hours(k == 0 ? 11 : 1);
            for (int i = 0; i < 4; i++) {
                y.ladle(i, 0);
            }
        }
        due("18 sixty of clay, at the last hour", y.gone(0), y.about(0, 1));
        due("18 that is sixty", y.about(0, 1), 60);
    }

    private static void round() {
        NoonShade x = Check.island(10, new int[][] {{0, 9, 0}, {1, 9, 0}, {0, 9, 0}}, 0);
        due("19 one", x.round(0, 1, -2), 4);
        due("19 one: the first of like ones", x.round(0, 1, 0), 0);
        due("19 two", x.round(0, 2, -2), 17);
        due("19 two: first", x.round(0, 2, 0), 0);
        due("19 two: second", x.round(0, 2, 1), 1);
        x.ladle(0, 0);
        due("19 milked, not now", x.round(0, 1, 0), 1);
        due("19 how much", x.round(0, 1, -2), 9);
        x.ladle(1, 0);
        x.ladle(2, 0);
        due("19 all milked: none", x.round(0, 1, 0), -1);
        due("19 all milked, an hour on they are not", x.round(0, 2, 1), 1);
        due("19 how much", x.round(0, 2, -2), 27);
        // stone keeps at 4 and 5, loses at 6: 10 and 10 and 0, less 1
        NoonShade dawn = Check.island(4, new int[][] {{3, 9, 0}}, 2);
        due("19 each hour of the day counts by itself", dawn.round(0, 3, -2), 19);
        NoonShade none = Check.island(10, new int[][] {}, 0);
        due("19 no casters: none", none.round(0, 4, 3), -1);
        due("19 no casters: nothing", none.round(0, 4, -2), 0);
        NoonShade full = Check.island(11, new int[][] {{0, 1, 0}, {5, 9, 0}, {5, 9, 0}, {5, 9, 0}, {5, 9, 0}}, 5);
        for (int i = 1; i < 5; i++) {
            full.ladle(i, 0);
        }
        due("19 a full cellar", full.round(0, 4, -2), 60);
        due("19 the least caster does", full.round(0, 4, 0), 0);
        due("19 nothing changed", full.count(3), 11);
    }

    private static void roundRefused() {
        NoonShade x = Check.island(10, new int[][] {{0, 9, 0}}, 0);
        long before = x.digest();
        due("19 bad jar", x.round(1, 1, -2), -10);
        due("19 bad jar", x.round(-1, 1, -2), -10);
        due("19 n 0", x.round(0, 0, -2), -10);
        due("19 n 5", x.round(0, 5, -2), -10);
        due("19 k -1", x.round(0, 1, -1), -10);
        due("19 k -3", x.round(0, 1, -3), -10);
        due("19 n 5 comes ahead of not so many", x.round(0, 5, 9), -10);
        due("19 all count as BAD", x.status(0), 7);
        due("19 not so many", x.round(0, 1, 1), -5);
        due("19 not so many", x.round(0, 4, 4), -5);
        due("19 not so many", x.round(0, 4, Integer.MAX_VALUE), -5);
        due("19 that counts as nothing", x.status(0) + x.status(1) + x.status(2), 7);
        due("19 nothing changed", x.digest(), before);
    }

    /** Tries every row of two by the calls themselves. */
    private static void roundByCalls() {
        int[][] casters = {{3, 9, 0}, {4, 3, 1}, {1, 6, 2}, {2, 9, 0}};
        for (int kind = 0; kind < 6; kind++) {
            for (int hour = 0; hour < 24; hour++) {
                NoonShade x = Check.island(hour, casters, kind);
                x.ladle(1, 0);
                x.image(0);
                int best = -1;
                int row = -1;
                for (int tried = 0; tried < 25; tried++) {
                    x.from(0);
                    int came = drawOrNone(x, tried / 5);
                    x.hours(1);
                    came = Math.min(came, drawOrNone(x, tried % 5));
                    x.hours(1);
                    if (came >= 0 && x.about(0, 1) > best) {
                        best = x.about(0, 1);
                        row = tried;
                    }
                }
                x.from(0);
                due("19 by calls, kind " + kind + " at " + hour, x.round(0, 2, -2), best);
                due("19 first, kind " + kind + " at " + hour, x.round(0, 2, 0), row / 5 == 4 ? -1 : row / 5);
                due("19 second, kind " + kind + " at " + hour, x.round(0, 2, 1), row % 5 == 4 ? -1 : row % 5);
            }
        }
    }

    private static int drawOrNone(NoonShade x, int i) {
        return i == 4 ? 0 : x.ladle(i, 0);
    }

    private static void few() {
        NoonShade x = Check.island(12, new int[][] {{0, 3, 1}, {1, 9, 1}, {0, 9, 1}, {1, 9, 2}, {0, 9, 1}, {3, 9, 3}}, 0, 0);
        due("20 one", x.few(0, 1, 1, 0), 1);
        due("20 the least", x.few(0, 1, 1, 1), 1);
        due("20 one of 5", x.few(0, 1, 3, 1), 2);
        due("20 one of 14", x.few(0, 1, 14, 1), 2);
        due("20 two", x.few(0, 1, 15, 0), 2);
        due("20 the least two", x.few(0, 1, 15, 1), 3);
        due("20 two", x.few(0, 1, 17, 1), 6);
        due("20 three", x.few(0, 1, 21, 0), 3);
        due("20 three", x.few(0, 1, 21, 1), 7);
        due("20 three", x.few(0, 1, 24, 1), 22);
        due("20 four", x.few(0, 1, 26, 1), 23);
        due("20 none", x.few(0, 1, 27, 0), -1);
        due("20 none: which", x.few(0, 1, 27, 1), -1);
        due("20 a taste that none has", x.few(0, 0, 1, 0), -1);
        due("20 one that gives nothing", x.few(0, 3, 1, 0), -1);
        x.ladle(1, 0);
        due("20 no ladle", x.few(0, 1, 14, 0), 0);
        due("20 none of them", x.few(0, 1, 14, 1), 0);
        due("20 milked ones not", x.few(0, 1, 15, 1), 1);
        due("20 milked ones not, another jar", x.few(1, 1, 5, 1), 4);
        due("20 another taste", x.few(0, 2, 1, 0), -1);
        x.ladle(3, 0);
        due("20 mixed", x.few(0, 1, 1, 0), -1);
        x.island(12);
        x.caster(0, 1, 2);
        x.caster(0, 9, 1);
        x.jar(0);
        x.ladle(0, 0);
        due("20 one of another taste is enough to bar it", x.few(0, 1, 2, 0), -1);
        due("20 its own taste has it", x.few(0, 2, 1, 0), 0);
        x.jar(1);
        due("20 none of these is refused", x.status(0), 0);
        int[][] bad = {{2, 1, 1, 0}, {-1, 1, 1, 0}, {0, -1, 1, 0}, {0, 4, 1, 0}, {0, 1, 0, 0}, {0, 1, 61, 0}, {0, 1, 1, -1}, {0, 1, 1, 2}};
        for (int[] b : bad) {
            due("20 bad", x.few(b[0], b[1], b[2], b[3]), -2);
        }
        due("20 bads", x.status(0), bad.length);
    }

    private static void into() {
        NoonShade x = Check.island(12, new int[][] {{5, 9, 0}, {5, 9, 1}, {0, 9, 2}}, 4, 1, 0, 2);
        due("21 it has nothing", x.into(0, 1, 0), -1);
        x.ladle(0, 0);
        due("21 which: clay, stone is like it", x.into(0, 1, 0), 2);
        due("21 how much", x.into(0, 1, 1), 16);
        due("21 over a night", x.into(0, 13, 0), 3);
        due("21 how much", x.into(0, 13, 1), 5);
        due("21 all gone: the least", x.into(0, 30, 0), 1);
        due("21 how much", x.into(0, 30, 1), 0);
        x.ladle(2, 1);
        due("21 what the other one has counts, too", x.into(0, 1, 1), 19);
        due("21 glass, which loses its three but once", x.into(0, 1, 0), 1);
        due("21 nothing changed", x.count(8), 2);
        NoonShade back = Check.island(12, new int[][] {{5, 9, 0}}, 0, 4);
        back.ladle(0, 1);
        due("21 the first jar", back.into(1, 1, 0), 0);
        due("21 how much", back.into(1, 1, 1), 16);
        NoonShade one = Check.island(12, new int[][] {{5, 9, 0}}, 0);
        one.ladle(0, 0);
        due("21 no other", one.into(0, 1, 0), -1);
        due("21 no other", one.into(0, 1, 1), -1);
        int[][] bad = {{4, 1, 0}, {-1, 1, 0}, {0, 0, 0}, {0, 31, 0}, {0, 1, -1}, {0, 1, 2}};
        for (int[] b : bad) {
            due("21 bad", x.into(b[0], b[1], b[2]), -2);
        }
        due("21 bads", x.status(0), bad.length);
        NoonShade full = Check.island(12, new int[][] {{5, 9, 0}, {5, 9, 0}, {5, 9, 0}, {5, 9, 0}, {1, 9, 0}}, 0, 0);
        for (int i = 0; i < 4; i++) {
            full.ladle(i, 1);
        }
        full.ladle(4, 0);
        due("21 into a full one goes nothing", full.into(0, 2, 1), 70);
        due("21 yet it is the other one", full.into(0, 2, 0), 1);
    }
}
