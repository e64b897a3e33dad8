/** Promises 8 to 14: ladle, pours, sells, hours, undo, of, about. */
public final class LadlesTest {
    private static final Check CHECK = new Check();

    public static void main(String[] args) {
        ladle();
        pours();
        sells();
        soldAtMost();
        hours();
        hoursLose();
        lastHour();
        undo();
        of();
        about();
        CHECK.finish("LadlesTest");
    }

    private static void due(String call, long got, long want) {
        CHECK.due(call, got, want);
    }

    private static void ladle() {
        NoonShade x = Check.island(12, new int[][] {{1, 9, 2}, {5, 9, 3}, {0, 9, 2}, {3, 9, 1}}, 0, 0);
        int[][] bad = {{-1, 0}, {4, 0}, {0, -1}, {0, 2}, {Integer.MAX_VALUE, 0}, {0, Integer.MIN_VALUE}};
        for (int[] b : bad) {
            due("8 bad ladle", x.ladle(b[0], b[1]), -2);
        }
        due("8 a cloud at 12 gives nothing", x.ladle(3, 0), 0);
        due("8 but is milked", x.of(3, 3), 1);
        due("8 the jar has no taste", x.about(0, 2), -1);
        due("8 a tree at 12", x.ladle(0, 0), 14);
        due("8 its taste", x.about(0, 2), 2);
        due("8 milked", x.ladle(0, 0), -3);
        due("8 milked, other jar", x.ladle(0, 1), -3);
        due("8 milked, but bad", x.ladle(0, 2), -2);
        due("8 the same taste", x.ladle(2, 0), 5);
        due("8 stays", x.about(0, 2), 2);
        due("8 another taste", x.ladle(1, 0), 17);
        due("8 is mixed", x.about(0, 2), 4);
        due("8 cool", x.about(0, 1), 36);
        due("8 all milked", x.count(4), 4);
        due("8 noes", x.status(1), 2);
        due("8 bads", x.status(0), 7);
        due("8 four may be undone", x.count(8), 4);
        for (int hour = 0; hour < 2; hour++) {
            x.hours(1);
            x.ladle(0, 0);
            x.ladle(1, 0);
        }
        due("8 sixty at most", x.about(0, 1), 60);
        due("8 nothing comes to a full one", x.ladle(2, 0), 0);
        due("8 but it is milked", x.of(2, 3), 1);
        NoonShade y = Check.island(12, new int[][] {{5, 9, 0}, {5, 9, 0}, {5, 9, 0}, {5, 9, 0}, {0, 9, 1}}, 0);
        y.ladle(0, 0);
        y.ladle(1, 0);
        y.ladle(2, 0);
        due("8 as much as goes in", y.ladle(3, 0), 9);
        due("8 nothing goes in", y.ladle(4, 0), 0);
        due("8 so the taste stays", y.about(0, 2), 0);
    }

    private static void pours() {
        NoonShade x = Check.island(12, new int[][] {{5, 9, 0}, {5, 9, 0}, {5, 9, 0}, {5, 9, 1}, {1, 9, 1}}, 0, 0, 0);
        int[][] bad = {{-1, 0}, {0, -1}, {3, 0}, {0, 3}, {0, 0}, {2, 2}};
        for (int[] b : bad) {
            due("9 bad pouring", x.pours(b[0], b[1]), -2);
        }
        due("9 it has nothing", x.pours(0, 1), -3);
        x.ladle(0, 0);
        due("9 a jar into itself", x.pours(0, 0), -2);
        due("9 all of it", x.pours(0, 1), 17);
        due("9 it is empty", x.about(0, 1), 0);
        due("9 and has no taste", x.about(0, 2), -1);
        due("9 the taste went over", x.about(1, 2), 0);
        x.ladle(3, 0);
        due("9 another taste", x.pours(0, 1), 17);
        due("9 is mixed", x.about(1, 2), 4);
        x.ladle(1, 0);
        x.ladle(2, 0);
        due("9 as much as goes in", x.pours(0, 1), 26);
        due("9 what is left", x.about(0, 1), 8);
        due("9 keeps its taste", x.about(0, 2), 0);
        x.ladle(4, 2);
        due("9 nothing goes in", x.pours(2, 1), 0);
        due("9 it has all", x.about(2, 1), 14);
        due("9 that may be undone, too", x.count(8), 8);
        due("9 mixed into an empty one", x.pours(1, 2), 46);
        due("9 is mixed", x.about(2, 2), 4);
        due("9 bads", x.status(0), 7);
        due("9 noes", x.status(1), 1);
        NoonShade y = Check.island(12, new int[][] {{1, 9, 3}, {1, 9, 3}, {1, 9, 2}}, 0, 0);
        y.ladle(0, 0);
        y.ladle(1, 1);
        y.pours(0, 1);
        due("9 alike tastes", y.about(1, 2), 3);
        y.ladle(2, 1);
        due("9 mixed into an empty one", y.pours(1, 0), 42);
        due("9 stays mixed", y.about(0, 2), 4);
    }

    private static void sells() {
        NoonShade x = Check.island(12, new int[][] {{1, 9, 0}, {1, 9, 1}, {0, 9, 1}}, 0, 0);
        due("10 bad", x.sells(-1), -2);
        due("10 bad", x.sells(2), -2);
        due("10 it has nothing", x.sells(0), -3);
        x.ladle(0, 0);
        due("10 twice", x.sells(0), 28);
        due("10 sold", x.count(5), 28);
        due("10 empty", x.about(0, 1), 0);
        due("10 no taste", x.about(0, 2), -1);
        due("10 nothing now", x.sells(0), -3);
        x.hours(1);
        x.ladle(0, 0);
        x.ladle(2, 0);
        due("10 mixed", x.sells(0), 19);
        due("10 sold", x.count(5), 47);
        due("10 undone", x.undo(), 13);
        due("10 sold", x.count(5), 28);
        due("10 cool", x.about(0, 1), 19);
        due("10 taste", x.about(0, 2), 4);
    }

    private static void soldAtMost() {
        int[] pergola = {5, 9, 0};
        NoonShade x = Check.island(12, new int[][] {pergola, pergola, pergola, pergola, pergola, pergola, pergola}, 0, 0);
        for (int day = 1; day <= 45; day++) {
            for (int i = 0; i < 7; i++) {
                x.ladle(i, i / 4);
            }
            due("10 twice sixty", x.sells(0), 120);
            due("10 twice 51", x.sells(1), 102);
            x.hours(24);
        }
        due("10 sold", x.count(5), 9990);
        x.ladle(0, 0);
        x.ladle(1, 1);
        due("10 no more than fits", x.sells(0), 9);
        due("10 at most", x.count(5), 9999);
        due("10 none fits", x.sells(1), 0);
        due("10 the jar is empty all the same", x.about(1, 1), 0);
        due("10 the last two undone", x.undo() - x.undo(), 0);
        due("10 sold then", x.count(5), 9990);
    }

    private static void hours() {
        NoonShade x = Check.island(9, new int[][] {{0, 9, 2}}, 0, 1);
        for (int n : new int[] {0, -1, 61, Integer.MAX_VALUE, Integer.MIN_VALUE}) {
            due("11 bad", x.hours(n), -2);
        }
        due("11 bads", x.status(0), 5);
        x.ladle(0, 0);
        due("11 one", x.hours(1), 10);
        due("11 clay loses one", x.about(0, 1), 4);
        due("11 none is milked", x.count(4), 0);
        due("11 sixty", x.hours(60), 70);
        due("11 empty", x.about(0, 1), 0);
        due("11 no taste", x.about(0, 2), -1);
        due("11 together one", x.count(8), 3);
        due("11 undone", x.undo(), 10);
        due("11 cool", x.about(0, 1), 4);
        due("11 taste", x.about(0, 2), 2);
    }

    private static void hoursLose() {
        // a pergola gives 17 at noon; three of them are 51
        int[][] casters = {{5, 9, 0}, {5, 9, 0}, {5, 9, 0}};
        int[][] left = {{50, 49, 48}, {48, 45, 42}, {50, 49, 48}, {43, 36, 30}, {25, 12, 6}, {51, 51, 51}};
        for (int kind = 0; kind < 6; kind++) {
            NoonShade x = Check.island(12, casters, kind);
            x.ladle(0, 0);
            x.ladle(1, 0);
            x.ladle(2, 0);
            for (int h = 0; h < 3; h++) {
                x.hours(1);
                due("11 kind " + kind + " after " + (h + 1), x.about(0, 1), left[kind][h]);
            }
        }
        NoonShade night = Check.island(4, new int[][] {{0, 9, 0}, {0, 9, 0}}, 2, 5);
        night.ladle(0, 0);
        night.ladle(1, 1);
        night.hours(2);
        due("11 stone keeps before six", night.about(0, 1), 5);
        due("11 a cellar, too", night.about(1, 1), 5);
        night.hours(1);
        due("11 stone loses at six", night.about(0, 1), 4);
        due("11 a cellar with less than 20, too", night.about(1, 1), 4);
    }

    private static void lastHour() {
        NoonShade x = Check.island(99, new int[][] {{0, 9, 0}}, 0);
        for (int k = 0; k < 164; k++) {
            x.hours(60);
        }
        due("11 near the end", x.hours(50), 9989);
        due("11 only ten go by", x.hours(60), 9999);
        due("11 undone", x.undo(), 9989);
        due("11 again", x.hours(11), 9999);
        due("11 gives goes beyond", x.gives(0, 60), 5);
        x.ladle(0, 0);
        int steps = x.count(8);
        due("11 at the end none goes by", x.hours(1), 9999);
        due("11 so nothing is lost", x.about(0, 1), 5);
        due("11 milked stays", x.count(4), 1);
        due("11 and none more may be undone", x.count(8), steps);
        due("11 keeps goes beyond", x.keeps(0, 2), 3);
        due("11 the last ladle undone", x.undo(), 9999);
        due("11 it was the ladle", x.about(0, 1), 0);
    }

    private static void undo() {
        NoonShade x = Check.island(12, new int[][] {{1, 9, 0}, {5, 9, 1}}, 0, 0);
        due("12 none", x.undo(), -3);
        x.ladle(0, 0);
        x.ladle(1, 1);
        x.pours(0, 1);
        x.sells(1);
        x.hours(5);
        x.note(0, 1, 1, 1);
        x.mark(0, 1, 1, 1);
        due("12 five", x.count(8), 5);
        due("12 hours", x.undo(), 12);
        due("12 milked again", x.count(4), 2);
        due("12 sale", x.undo(), 12);
        due("12 sold", x.count(5), 0);
        due("12 mixed", x.about(1, 2), 4);
        due("12 pouring", x.undo(), 12);
        due("12 first jar", x.about(0, 1), 14);
        due("12 its taste", x.about(0, 2), 0);
        due("12 second jar", x.about(1, 1), 17);
        due("12 its taste", x.about(1, 2), 1);
        due("12 ladle", x.undo(), 12);
        due("12 milked", x.count(4), 1);
        due("12 not the second", x.of(1, 3), 0);
        due("12 ladle", x.undo(), 12);
        due("12 no taste", x.about(0, 2), -1);
        due("12 none more", x.undo(), -3);
        due("12 notes stay", x.count(6), 1);
        due("12 marks stay", x.count(7), 1);
        due("12 noes", x.status(1), 2);
        for (int k = 0; k < 10; k++) {
            x.hours(k + 1);
        }
        due("12 eight at most", x.count(8), 8);
        for (int k = 9; k >= 2; k--) {
            due("12 back " + k, x.undo(), 12 + k * (k + 1) / 2);
        }
        due("12 no further", x.undo(), -3);
        x.ladle(9, 9);
        x.pours(0, 1);
        x.hours(0);
        due("12 what is refused is not undone", x.count(8), 0);
    }

    private static void of() {
        NoonShade x = Check.island(11, new int[][] {{4, 7, 3}, {1, 5, 2}}, 0);
        due("13 kind", x.of(0, 0), 4);
        due("13 height", x.of(0, 1), 7);
        due("13 taste", x.of(0, 2), 3);
        due("13 milked", x.of(0, 3), 0);
        due("13 gives", x.of(0, 4), 5);
        x.ladle(0, 0);
        due("13 milked now", x.of(0, 3), 1);
        due("13 gives all the same", x.of(0, 4), 5);
        due("13 the other", x.of(1, 3), 0);
        due("13 gives", x.of(1, 4), 8);
        due("13 bad", x.of(2, 0), -2);
        due("13 bad", x.of(-1, 0), -2);
        due("13 bad", x.of(0, 5), -2);
        due("13 bad", x.of(0, -1), -2);
        due("13 bads", x.status(0), 4);
    }

    private static void about() {
        NoonShade x = Check.island(5, new int[][] {{0, 9, 3}, {4, 9, 3}, {4, 9, 3}}, 3, 2);
        due("14 kind", x.about(0, 0), 3);
        due("14 cool", x.about(0, 1), 0);
        due("14 taste", x.about(0, 2), -1);
        due("14 an empty one loses nothing", x.about(0, 3), 0);
        x.ladle(0, 0);
        due("14 cool", x.about(0, 1), 5);
        due("14 taste", x.about(0, 2), 3);
        due("14 loses three", x.about(0, 3), 3);
        x.ladle(1, 0);
        due("14 17 lose four", x.about(0, 3), 4);
        x.ladle(2, 1);
        due("14 stone at five", x.about(1, 3), 0);
        x.hours(1);
        due("14 stone at six", x.about(1, 3), 1);
        NoonShade y = Check.island(5, new int[][] {{0, 1, 3}}, 1);
        y.ladle(0, 0);
        due("14 no more than it has", y.about(0, 3), 1);
        due("14 bad", x.about(2, 0), -2);
        due("14 bad", x.about(-1, 0), -2);
        due("14 bad", x.about(0, 4), -2);
        due("14 bad", x.about(0, -1), -2);
        due("14 bads", x.status(0), 4);
    }
}
