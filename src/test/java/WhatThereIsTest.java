/** Promises 32 to 37: part, image, from, status, count, digest. */
public final class WhatThereIsTest {
    private static final Check CHECK = new Check();

    public static void main(String[] args) {
        part();
        image();
        from();
        fromWithAll();
        status();
        count();
        digest();
        digestOfNone();
        CHECK.finish("WhatThereIsTest");
    }

    private static void due(String call, long got, long want) {
        CHECK.due(call, got, want);
    }

    private static NoonShade busy() {
        NoonShade x = Check.island(12, new int[][] {{1, 9, 2}, {5, 8, 1}, {0, 3, 0}}, 0, 5);
        x.ladle(0, 0);
        x.ladle(1, 1);
        x.sells(1);
        x.note(2, 7, 11, 33);
        x.mark(1, 44, 22, 55);
        x.mark(0, 1, 2, 3);
        return x;
    }

    private static void part() {
        NoonShade x = busy();
        due("32 above", x.part(0), 0);
        due("32 below", x.part(1), 1);
        due("32 bad", x.part(2), -2);
        due("32 bad", x.part(-1), -2);
        due("32 bads", x.status(0), 2);
        x.spilt(0, 1, 15, 8);
        due("32 above", x.part(0), 1);
        due("32 below", x.part(1), 5);
    }

    private static void image() {
        NoonShade x = busy();
        due("33 bad", x.image(-1), -2);
        due("33 bad", x.image(2), -2);
        due("33 none was kept", x.from(0), -3);
        due("33 kept", x.image(0), 1);
        due("33 only that one", x.from(1), -3);
        x.hours(3);
        due("33 kept over", x.image(0), 1);
        x.hours(3);
        x.from(0);
        due("33 the later one", x.count(3), 15);
        due("33 bads", x.status(0), 2);
        due("33 noes", x.status(1), 2);
    }

    private static void from() {
        NoonShade x = busy();
        long first = x.digest();
        x.image(0);
        x.hours(2);
        x.caster(3, 3, 3);
        x.forget(0);
        x.forget(1);
        x.image(1);
        long second = x.digest();
        due("34 bad", x.from(2), -2);
        due("34 bad", x.from(-1), -2);
        due("34 first", x.from(0), 1);
        due("34 all is back", x.digest(), first);
        due("34 what may be undone, too", x.count(8), 3);
        due("34 it is undone", x.undo(), 12);
        due("34 the sale was", x.about(1, 1), 15);
        due("34 second", x.from(1), 1);
        due("34 all is back", x.digest(), second);
        due("34 the image is not touched by what comes later", x.from(0), 1);
        due("34 all is back", x.digest(), first);
        x.island(50);
        for (int k = 0; k < 4; k++) {
            x.caster(k, k + 2, 3);
            x.jar(4);
        }
        for (int k = 0; k < 6; k++) {
            x.note(3, 3, 3, 3);
            x.mark(3, 3, 3, 3);
            x.hours(1);
            x.ladle(k % 4, 3);
        }
        x.from(0);
        due("34 all is back behind another island", x.digest(), first);
        due("34 the sale undone", x.undo(), 12);
        due("34 its cool", x.about(1, 1), 15);
        due("34 its taste", x.about(1, 2), 1);
        due("34 the ladle undone", x.undo(), 12);
        due("34 the first one undone", x.undo(), 12);
        due("34 nothing is in the jars", x.count(2), 0);
        x.type('a');
        x.spilt(0, 0, 0, 0);
        x.jar(9);
        x.from(0);
        due("34 the text stays", x.count(9), 1);
        due("34 the fraction stays", x.part(0), 1);
        due("34 status stays", x.status(0), 3);
        x.island(0);
        due("34 images stay behind an island", x.from(1), 1);
        due("34 casters", x.count(0), 4);
    }

    /** As much as there can be of everything, so that an image that keeps less is seen. */
    private static void fromWithAll() {
        NoonShade x = new NoonShade();
        fillUp(x, 1);
        long first = x.digest();
        x.image(0);
        fillUp(x, 2);
        long second = x.digest();
        x.image(1);
        x.from(0);
        due("34 the first of two full ones", x.digest(), first);
        int[] firstBack = undoAll(x);
        x.from(1);
        due("34 the second of two full ones", x.digest(), second);
        int[] secondBack = undoAll(x);
        for (int k = 0; k < 8; k++) {
            due("34 cool of the first, back " + k, firstBack[k], coolOf(1, 7 - k));
            due("34 cool of the second, back " + k, secondBack[k], coolOf(2, 7 - k));
        }
    }

    private static void fillUp(NoonShade x, int by) {
        x.island(12);
        for (int i = 0; i < 7; i++) {
            x.caster(i % 2, i % 3 + by, (i + by) % 4);
        }
        for (int j = 0; j < 4; j++) {
            x.jar((j + by) % 6);
        }
        for (int k = 0; k < 6; k++) {
            x.note((k + by) % 7, k % 3 + by, k + by, 7 * k + by);
            x.mark((k + by) % 4, 9 * k + by, k + by, 9 * k + by);
        }
        for (int i = 0; i < 7; i++) {
            x.ladle(i, i % 4);
        }
        x.sells(3);
    }

    private static int[] undoAll(NoonShade x) {
        int[] cool = new int[8];
        for (int k = 0; k < 8; k++) {
            x.undo();
            cool[k] = x.count(2);
        }
        return cool;
    }

    /** The cool in all jars behind so many ladles of fillUp. */
    private static int coolOf(int by, int ladles) {
        int sum = 0;
        for (int i = 0; i < ladles; i++) {
            int h = i % 3 + by;
            sum += (h + 1) / 2 + (i % 2 == 1 ? h : 0);
        }
        return sum;
    }

    private static void status() {
        NoonShade x = new NoonShade();
        x.jar(6);
        x.undo();
        x.from(0);
        for (int k = 0; k < 7; k++) {
            x.caster(0, 1, 0);
        }
        x.caster(0, 1, 0);
        x.caster(0, 1, 0);
        x.caster(0, 1, 0);
        due("35 bads", x.status(0), 1);
        due("35 noes", x.status(1), 2);
        due("35 fulls", x.status(2), 3);
        due("35 another", x.status(3), -1);
        due("35 another", x.status(-1), -1);
        due("35 counts as BAD", x.status(0), 3);
        x.round(0, 1, 0);
        x.two(-2);
        due("35 where another number is told", x.status(0), 5);
        x.two(50);
        x.read();
        x.is(0);
        due("35 these are no refusals", x.status(0) + x.status(1) + x.status(2), 10);
    }

    private static void count() {
        NoonShade x = busy();
        x.type('x');
        int[] there = {3, 2, 14, 12, 2, 30, 1, 2, 3, 1};
        for (int what = 0; what < there.length; what++) {
            due("36 count(" + what + ")", x.count(what), there[what]);
        }
        due("36 bad", x.count(10), -2);
        due("36 bad", x.count(-1), -2);
        due("36 bads", x.status(0), 2);
    }

    private static void digest() {
        NoonShade x = busy();
        x.type('x');
        x.type('y');
        x.spilt(0, 1, 15, 8);
        long[] values = {
            3, 2, 14, 12, 2, 30, 1, 2, 3, 2,
            1, 9, 2, 1, 5, 8, 1, 1, 0, 3, 0, 0,
            0, 14, 2, 5, 0, -1,
            2, 7, 11, 33,
            1, 44, 22, 55, 0, 1, 2, 3,
            1, 5};
        long h = 1879;
        for (long v : values) {
            h = 31 * h + v;
        }
        due("37 digest", x.digest(), h);
        x.jar(8);
        due("37 status is not in it", x.digest(), h);
        x.image(0);
        due("37 images are not in it", x.digest(), h);
    }

    private static void digestOfNone() {
        long h = 1879;
        for (int v = 0; v < 10; v++) {
            h = 31 * h;
        }
        due("37 of a new object", new NoonShade().digest(), 31 * (31 * h) + 1);
    }
}
