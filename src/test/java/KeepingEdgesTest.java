/** What is kept and what stays at its edges: a new object, island, images, the fraction, status, count, digest. */
public final class KeepingEdgesTest {
    private static final Check CHECK = new Check();

    public static void main(String[] args) {
        newObject();
        islandBeginsAnew();
        islandOfManyCasters();
        imageOfNothing();
        imagesApart();
        imageKeptOver();
        imageTwice();
        imageKeepsWhatMayBeUndone();
        imagesFullOfAll();
        imageLeavesTheRest();
        imageTouchesNothing();
        fractionStays();
        eachRefusalCountsOnce();
        whatIsNoRefusal();
        statusStays();
        countAtItsEdges();
        digestOfAll();
        digestSeesEachValue();
        CHECK.finish("KeepingEdgesTest");
    }

    private static void due(String call, long got, long want) {
        CHECK.due(call, got, want);
    }

    private static void dueCounts(String call, NoonShade x, int... counts) {
        for (int what = 0; what <= 9; what++) {
            due(call + ": count(" + what + ")", x.count(what), counts[what]);
        }
    }

    private static void newObject() {
        NoonShade x = new NoonShade();
        dueCounts("1", x, 0, 0, 0, 0, 0, 0, 0, 0, 0, 0);
        due("1 THE FRACTION is 0", x.part(0), 0);
        due("1 by 1", x.part(1), 1);
        due("1 no CASTER 0", x.of(0, 0), -2);
        due("1 no JAR 0", x.about(0, 0), -2);
        due("1 nothing to undo", x.undo(), -3);
        due("1 no IMAGE 0", x.from(0), -3);
        due("1 no IMAGE 1", x.from(1), -3);
        due("1 THE TEXT is empty", x.clear(), 0);
        due("1 no NOTES", x.forget(0), 0);
        due("1 no MARKS", x.forget(1), 0);
        due("1 BAD", x.status(0), 2);
        due("1 NO", x.status(1), 3);
        due("1 FULL", x.status(2), 0);
        NoonShade y = new NoonShade();
        due("1 another object has none of it", Calls.refusals(y), 0);
        due("1 it begins at hour 0", y.hours(1), 1);
    }

    private static NoonShade busy() {
        NoonShade x = Check.island(12, new int[][] {{1, 9, 2}, {0, 3, 1}, {5, 9, 0}}, 0, 2);
        x.ladle(0, 0);
        x.sells(0);
        x.ladle(1, 1);
        x.note(0, 1, 2, 3);
        x.mark(0, 1, 2, 3);
        x.mark(1, 1, 2, 3);
        x.type('x');
        x.spilt(0, 1, 13, 3);
        return x;
    }

    private static void islandBeginsAnew() {
        for (int t : new int[] {0, 1, 98, 99}) {
            NoonShade x = busy();
            x.image(0);
            x.jar(6);
            x.from(1);
            dueCounts("2 ahead", x, 3, 2, 2, 12, 2, 28, 1, 2, 3, 1);
            due("2 how many CASTERS there were", x.island(t), 3);
            dueCounts("2 island(" + t + ")", x, 0, 0, 0, t, 0, 0, 0, 0, 0, 1);
            due("2 THE FRACTION stays", 100 * x.part(0) + x.part(1), 710);
            due("2 STATUS stays", 10 * x.status(0) + x.status(1), 11);
            due("2 nothing to undo", x.undo(), -3);
            due("2 no CASTER", x.of(0, 0), -2);
            due("2 no JAR", x.about(0, 0), -2);
            due("2 the first CASTER", x.caster(0, 9, 3), 0);
            due("2 it is not MILKED", x.of(0, 3), 0);
            due("2 no NOTES of it", x.is(0), 63);
            due("2 the first JAR", x.jar(5), 0);
            due("2 it is empty", x.about(0, 1), 0);
            due("2 it has no TASTE", x.about(0, 2), -1);
            due("2 no MARKS of it", x.kinds(0), 63);
            due("2 IMAGE 1 is none still", x.from(1), -3);
            due("2 IMAGE 0 stays", x.from(0), 1);
            dueCounts("2 from it", x, 3, 2, 2, 12, 2, 28, 1, 2, 3, 1);
        }
    }

    private static void islandOfManyCasters() {
        NoonShade x = new NoonShade();
        due("2 there were none", x.island(0), 0);
        for (int many = 1; many <= 7; many++) {
            for (int i = 0; i < many; i++) {
                x.caster(0, 1, 0);
            }
            due("2 BAD tells nothing of them", x.island(100), -2);
            due("2 they stay", x.count(0), many);
            due("2 there were " + many, x.island(99), many);
        }
        due("2 there were none", x.island(0), 0);
    }

    private static void imageOfNothing() {
        NoonShade x = new NoonShade();
        due("33 of a new object", x.image(1), 1);
        x.island(7);
        x.caster(0, 1, 0);
        x.jar(0);
        x.ladle(0, 0);
        due("34 none was kept", x.from(0), -3);
        due("34 it goes on from it", x.from(1), 1);
        dueCounts("34 nothing was there", x, 0, 0, 0, 0, 0, 0, 0, 0, 0, 0);
        due("34 the first CASTER", x.caster(0, 1, 0), 0);
        due("34 it is not MILKED", x.of(0, 3), 0);
    }

    private static void imagesApart() {
        NoonShade x = new NoonShade();
        x.hours(1);
        due("33 the first", x.image(0), 1);
        x.hours(1);
        due("34 the other one was not kept", x.from(1), -3);
        due("33 the second", x.image(1), 1);
        x.hours(1);
        x.from(0);
        due("34 the first", x.count(3), 1);
        x.from(1);
        due("34 the second", x.count(3), 2);
        x.image(0);
        x.hours(5);
        x.from(0);
        due("34 the second is kept as the first now", x.count(3), 2);
        due("34 BAD", x.from(2), -2);
        due("33 BAD", x.image(2), -2);
        due("34 refused, nothing changed", x.count(3), 2);
    }

    private static void imageKeptOver() {
        NoonShade x = busy();
        x.image(0);
        x.island(3);
        x.image(0);
        x.caster(0, 1, 0);
        x.from(0);
        dueCounts("33 the later one", x, 0, 0, 0, 3, 0, 0, 0, 0, 0, 1);
        due("33 nothing to undo", x.undo(), -3);
    }

    private static void imageTwice() {
        NoonShade x = busy();
        x.image(0);
        for (int k = 0; k < 3; k++) {
            due("34 again and again", x.from(0), 1);
            dueCounts("34 again and again", x, 3, 2, 2, 12, 2, 28, 1, 2, 3, 1);
            x.hours(60);
            x.forget(0);
            x.forget(1);
            x.caster(0, 1, 0);
            x.jar(0);
        }
        x.island(0);
        due("34 behind an island", x.from(0), 1);
        Check.read(x, "island 5;");
        due("34 behind a text", x.from(0), 1);
        dueCounts("34 all of it", x, 3, 2, 2, 12, 2, 28, 1, 2, 3, 9);
    }

    private static void imageKeepsWhatMayBeUndone() {
        for (int done = 0; done <= 9; done++) {
            NoonShade x = new NoonShade();
            for (int k = 0; k < done; k++) {
                x.hours(1);
            }
            x.image(0);
            int may = Math.min(8, done);
            for (int k = 0; k < may; k++) {
                x.undo();
            }
            x.jar(0);
            due("34 none may be", x.undo(), -3);
            x.from(0);
            due("34 so many may be", x.count(8), may);
            for (int k = 1; k <= may; k++) {
                due("34 undone", x.undo(), done - k);
            }
            due("34 none may be", x.undo(), -3);
            x.from(0);
            due("34 what is undone later stays in it", x.count(8), may);
        }
    }

    /** As much as there can be of everything in both images, with eight steps that differ. */
    private static void imagesFullOfAll() {
        NoonShade x = new NoonShade();
        fillUp(x, 1);
        String first = allBack(x);
        fillUp(x, 2);
        String second = allBack(x);
        CHECK.holds("34 they differ", !first.equals(second));
        fillUp(x, 1);
        x.image(0);
        fillUp(x, 2);
        x.image(1);
        fillUp(x, 3);
        for (int k = 0; k < 2; k++) {
            x.from(0);
            CHECK.holds("34 the first as it was", allBack(x).equals(first));
            x.from(1);
            CHECK.holds("34 the second as it was", allBack(x).equals(second));
        }
    }

    private static void fillUp(NoonShade x, int by) {
        x.island(12 + by);
        for (int i = 0; i < 7; i++) {
            x.caster((i + by) % 3, i + by, (i + by) % 4);
        }
        for (int j = 0; j < 4; j++) {
            x.jar((j + by) % 6);
        }
        for (int k = 0; k < 6; k++) {
            x.note((k + by) % 7, k + by, k + by, 6 * k + by);
            x.mark((k + by) % 4, 9 * k + by, k + by, 9 * k + by);
        }
        for (int i = 0; i < 5; i++) {
            x.ladle(i, (i + by) % 4);
        }
        x.pours((3 + by) % 4, (4 + by) % 4);
        x.sells((1 + by) % 4);
        x.hours(by);
    }

    /** What is now, and behind each of eight steps back. */
    private static String allBack(NoonShade x) {
        StringBuilder s = new StringBuilder().append(x.digest());
        for (int k = 0; k < 8; k++) {
            s.append(' ').append(x.undo()).append(' ').append(x.digest());
        }
        return s.toString();
    }

    private static void imageLeavesTheRest() {
        NoonShade x = busy();
        x.image(0);
        x.type('y');
        x.type('z');
        x.spilt(0, 1, 13, 9);
        x.jar(6);
        x.ladle(0, 0);
        x.image(1);
        x.from(0);
        due("34 THE TEXT stays", x.count(9), 3);
        due("34 THE FRACTION stays", 100 * x.part(0) + x.part(1), 110);
        due("34 STATUS stays", 10 * x.status(0) + x.status(1), 11);
        x.clear();
        x.from(1);
        due("34 THE TEXT stays empty", x.count(9), 0);
        due("34 IMAGE 0 stays", x.from(0), 1);
    }

    private static void imageTouchesNothing() {
        NoonShade x = busy();
        long before = x.digest();
        due("33 image", x.image(0), 1);
        due("33 nothing is changed", x.digest(), before);
        due("34 from", x.from(0), 1);
        due("34 nothing is changed", x.digest(), before);
        due("33 neither is refused", Calls.refusals(x), 0);
    }

    private static void fractionStays() {
        NoonShade x = busy();
        due("32 above", x.part(0), 7);
        due("32 below", x.part(1), 10);
        due("32 BAD", x.part(2), -2);
        due("32 BAD", x.part(-1), -2);
        due("30 BAD", x.spilt(0, 5, 0, 0), -2);
        x.ladle(2, 0);
        x.undo();
        x.round(0, 4, -2);
        x.noons(4, 60);
        due("32 above stays", x.part(0), 7);
        due("32 below stays", x.part(1), 10);
        x.spilt(0, 0, 1, 1);
        due("32 0", x.part(0), 0);
        due("32 by 1", x.part(1), 1);
        x.spilt(0, 0, 0, 1);
        due("32 1", x.part(0), 1);
        due("32 by 1", x.part(1), 1);
    }

    private static void eachRefusalCountsOnce() {
        NoonShade x = new NoonShade();
        int bads = 0;
        Object[][] bad = {{"island", new int[] {100}}, {"caster", new int[] {6, 1, 0}}, {"jar", new int[] {6}}, {"type", new int[] {128}},
            {"ladle", new int[] {0, 0}}, {"pours", new int[] {0, 1}}, {"sells", new int[] {0}}, {"hours", new int[] {0}},
            {"of", new int[] {0, 0}}, {"about", new int[] {0, 0}}, {"gives", new int[] {0, 0}}, {"keeps", new int[] {0, 0}},
            {"when", new int[] {0}}, {"gone", new int[] {0}}, {"round", new int[] {0, 1, -2}}, {"few", new int[] {0, 0, 1, 0}},
            {"into", new int[] {0, 1, 0}}, {"note", new int[] {0, 1, 0, 0}}, {"mark", new int[] {0, 0, 0, 0}}, {"forget", new int[] {2}},
            {"is", new int[] {0}}, {"look", new int[] {0}}, {"kinds", new int[] {0}}, {"ask", new int[] {0}}, {"two", new int[] {-2}},
            {"spilt", new int[] {0, 0, 0, 0}}, {"noons", new int[] {-1, 0}}, {"part", new int[] {2}}, {"image", new int[] {2}},
            {"from", new int[] {2}}, {"status", new int[] {3}}, {"count", new int[] {10}}};
        for (Object[] b : bad) {
            String name = (String) b[0];
            long answer = Calls.ask(x, name, (int[]) b[1]);
            bads++;
            due("35 " + name, answer, name.equals("round") || name.equals("two") ? -10 : name.equals("status") ? -1 : -2);
            due("35 " + name + " is one more BAD", x.status(0), bads);
            due("35 " + name + " is no NO", x.status(1), 0);
            due("35 " + name + " is no FULL", x.status(2), 0);
        }
        due("35 all but clear, read, undo, digest can be BAD", bads, 32);
        due("35 below 0", x.status(-1), -1);
        due("35 counts as BAD", x.status(0), bads + 1);
        due("35 far below 0", x.status(Integer.MIN_VALUE), -1);
        due("35 counts as BAD", x.status(0), bads + 2);
    }

    private static void whatIsNoRefusal() {
        NoonShade x = busy();
        due("19 -5", x.round(0, 1, 1), -5);
        due("29 -5", x.two(40), -5);
        due("18 NONE", Check.filled(5, 12, 20).gone(0), -1);
        due("20 NONE", x.few(0, 3, 60, 0), -1);
        due("21 NONE", x.into(0, 1, 0), -1);
        due("26 NONE", lookOfNone(x), -1);
        due("14 NONE: empty", x.about(0, 2), -1);
        x.clear();
        due("7 an empty text", x.read(), -10);
        due("35 none of these is refused", Calls.refusals(x), 0);
    }

    private static int lookOfNone(NoonShade x) {
        x.note(0, 9, 12, 40);
        return x.look(0);
    }

    private static void statusStays() {
        NoonShade x = busy();
        x.image(0);
        x.jar(6);
        x.undo();
        x.jar(7);
        x.from(1);
        for (int k = 0; k < 5; k++) {
            x.jar(0);
        }
        due("35 BAD", x.status(0), 2);
        due("35 NO", x.status(1), 1);
        due("35 FULL", x.status(2), 3);
        x.from(0);
        x.island(5);
        Check.read(x, "island 5;");
        x.undo();
        due("35 BAD stays", x.status(0), 2);
        due("35 NO: undo, too", x.status(1), 2);
        due("35 FULL stays", x.status(2), 3);
    }

    private static void countAtItsEdges() {
        NoonShade x = new NoonShade();
        due("36 BAD", x.count(-1), -2);
        due("36 BAD", x.count(10), -2);
        due("36 that counts", x.status(0), 2);
        NoonShade y = full();
        dueCounts("36 as much as there can be", y, 7, 4, y.about(0, 1) + y.about(1, 1) + y.about(2, 1) + y.about(3, 1), 12, 7, 0, 6, 6, 7, 150);
        due("36 COOL of all JARS", y.count(2), 119);
        NoonShade all = Check.island(12, new int[][] {{5, 9, 0}, {5, 9, 0}, {5, 9, 0}, {5, 9, 0}}, 5, 5, 5, 5);
        for (int j = 0; j < 4; j++) {
            for (int i = 0; i < 4; i++) {
                all.ladle(i, j);
            }
            all.hours(j == 1 ? 23 : j == 0 ? 1 : 24);
        }
        due("36 the most COOL", all.count(2), 240);
    }

    /** Seven casters, four jars, six notes and marks, 150 bytes; all milked. */
    private static NoonShade full() {
        NoonShade x = new NoonShade();
        x.island(12);
        for (int i = 0; i < 7; i++) {
            x.caster(5, 9, i % 4);
        }
        for (int j = 0; j < 4; j++) {
            x.jar(5 - j);
        }
        for (int k = 0; k < 6; k++) {
            x.note(k + 1, k + 2, k + 3, k + 4);
            x.mark(k % 4, k + 5, k + 6, k + 7);
        }
        for (int i = 0; i < 7; i++) {
            x.ladle(i, i % 4);
        }
        for (int k = 0; k < 150; k++) {
            x.type(k % 128);
        }
        return x;
    }

    private static void digestOfAll() {
        NoonShade x = full();
        x.sells(3);
        x.spilt(0, 0, 0, 0);
        long h = 1879;
        for (long v : new long[] {7, 4, 102, 12, 7, 34, 6, 6, 8, 150}) {
            h = 31 * h + v;
        }
        for (int i = 0; i < 7; i++) {
            for (long v : new long[] {5, 9, i % 4, 1}) {
                h = 31 * h + v;
            }
        }
        for (long v : new long[] {5, 34, 0, 4, 34, 1, 3, 34, 2, 2, 0, -1}) {
            h = 31 * h + v;
        }
        for (int k = 0; k < 6; k++) {
            for (long v : new long[] {k + 1, k + 2, k + 3, k + 4}) {
                h = 31 * h + v;
            }
        }
        for (int k = 0; k < 6; k++) {
            for (long v : new long[] {k % 4, k + 5, k + 6, k + 7}) {
                h = 31 * h + v;
            }
        }
        h = 31 * h + 1;
        h = 31 * h + 1;
        due("37 of as much as there can be (it goes round at 64 bits)", x.digest(), h);
        due("37 again", x.digest(), h);
        due("37 nothing is refused", Calls.refusals(x), 0);
        x.jar(9);
        due("37 STATUS is not in it", x.digest(), h);
        NoonShade y = Check.island(99, new int[][] {{5, 9, 3}, {0, 1, 0}}, 0);
        y.ladle(0, 0);
        long few = 1879;
        for (long v : new long[] {2, 1, 8, 99, 1, 0, 0, 0, 1, 0, 5, 9, 3, 1, 0, 1, 0, 0, 0, 8, 3, 0, 1}) {
            few = 31 * few + v;
        }
        due("37 one that is MILKED, one that is not", y.digest(), few);
        long none = 1879;
        for (int v = 0; v < 11; v++) {
            none = 31 * none;
        }
        due("37 of a new object", new NoonShade().digest(), 31 * none + 1);
    }

    /** Two objects that differ in one value alone have two digests. */
    private static void digestSeesEachValue() {
        int[][] casters = {{3, 4, 1}, {2, 4, 1}, {3, 5, 1}, {3, 4, 2}};
        due("37 each CASTER", java.util.Arrays.stream(casters)
            .mapToLong(c -> Check.island(1, new int[][] {c}).digest()).distinct().count(), 4);
        CHECK.holds("37 jars", Check.island(0, new int[][] {}, 0).digest() != Check.island(0, new int[][] {}, 1).digest());
        CHECK.holds("37 hours", Check.island(0, new int[][] {}).digest() != Check.island(1, new int[][] {}).digest());
        NoonShade x = Check.island(12, new int[][] {{3, 9, 1}}, 0);
        long before = x.digest();
        x.ladle(0, 0);
        CHECK.holds("37 who is MILKED", x.digest() != before);
        x.undo();
        due("37 as ahead of it", x.digest(), before);
        int[][] notes = {{0, 1, 2, 3}, {1, 1, 2, 3}, {0, 2, 2, 3}, {0, 1, 3, 3}, {0, 1, 2, 4}};
        long[] digests = new long[10];
        for (int k = 0; k < 5; k++) {
            NoonShade y = Check.island(12, new int[][] {{3, 9, 1}, {3, 9, 1}}, 0, 0);
            y.note(notes[k][0], notes[k][1], notes[k][2], notes[k][3]);
            digests[k] = y.digest();
            NoonShade z = Check.island(12, new int[][] {{3, 9, 1}, {3, 9, 1}}, 0, 0);
            z.mark(notes[k][0], notes[k][1], notes[k][2], notes[k][3]);
            digests[5 + k] = z.digest();
        }
        due("37 each NOTE, each MARK", java.util.Arrays.stream(digests).distinct().count(), 10);
    }
}
