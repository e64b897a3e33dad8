/** The terms at their edges: hours, casters and jars of all kinds, the ladle, the pouring, the sale, the hour, undo. */
public final class TermsEdgesTest {
    private static final Check CHECK = new Check();

    public static void main(String[] args) {
        hoursOfADay();
        castersComeInOrder();
        jarsComeInOrder();
        walls();
        trees();
        figs();
        clouds();
        men();
        pergolas();
        everyJarAtItsEdges();
        jarsAtEveryCool();
        eachJarLosesByItself();
        ladleUpToSixty();
        ladleTastes();
        pourUpToSixty();
        pourTastes();
        saleOfOneAndOfSixty();
        soldUpTo9999();
        hourEndsMilked();
        hoursUpTo9999();
        hoursThatCrossMidnight();
        undoEight();
        undoOfNothingThatCame();
        undoBringsBackAll();
        undoLeavesTheRest();
        noneToUndoBehindACasterOrAJar();
        CHECK.finish("TermsEdgesTest");
    }

    private static void due(String call, long got, long want) {
        CHECK.due(call, got, want);
    }

    private static void dueNow(String call, NoonShade x, int cool0, int taste0, int cool1, int taste1) {
        due(call + ": cool of jar 0", x.about(0, 1), cool0);
        due(call + ": taste of jar 0", x.about(0, 2), taste0);
        due(call + ": cool of jar 1", x.about(1, 1), cool1);
        due(call + ": taste of jar 1", x.about(1, 2), taste1);
    }

    // ---- hours, casters, jars

    private static void hoursOfADay() {
        due("1 HOURS: 0 at first", new NoonShade().count(3), 0);
        // a cloud gives nothing at 0 and 3, a tree more at 11; 23 and 24 are on both sides of midnight
        int[][] edges = {{0, 0}, {10, 10}, {23, 10}, {24, 0}, {25, 10}, {47, 10}, {48, 0}, {71, 10}, {72, 0}, {95, 10}, {96, 0}, {99, 0}};
        for (int[] e : edges) {
            NoonShade x = Check.island(e[0], new int[][] {{3, 9, 0}});
            due("hour " + e[0] + " of a day, that by 24 left over", x.of(0, 4), e[1]);
        }
        NoonShade x = Check.island(34, new int[][] {{1, 9, 0}});
        int[] given = {5, 14, 14, 14, 5};
        for (int hour = 34; hour <= 38; hour++) {
            due("hour " + hour + " is one of the second day", x.of(0, 4), given[hour - 34]);
            x.hours(1);
        }
    }

    private static void castersComeInOrder() {
        NoonShade x = new NoonShade();
        x.jar(0);
        for (int i = 0; i <= 6; i++) {
            due("3 caster " + i + " is not there yet", x.of(i, 0), -2);
            due("3 caster " + i, x.caster(i % 6, 9 - i, i % 4), i);
            due("3 so many", x.count(0), i + 1);
            due("3 not MILKED at first", x.of(i, 3), 0);
            x.ladle(i, 0);
            due("3 MILKED", x.count(4), i + 1);
        }
        due("3 FULL: 7", x.caster(0, 1, 0), -4);
        due("3 caster 7 is none", x.of(7, 0), -2);
        due("3 still seven", x.count(0), 7);
        NoonShade y = Check.island(3, new int[][] {{0, 1, 0}, {0, 9, 3}});
        due("3 the least height", y.of(0, 1), 1);
        due("3 the greatest height", y.of(1, 1), 9);
        due("3 the first taste", y.of(0, 2), 0);
        due("3 the last taste", y.of(1, 2), 3);
    }

    private static void jarsComeInOrder() {
        NoonShade x = new NoonShade();
        for (int j = 0; j <= 3; j++) {
            due("4 jar " + j + " is not there yet", x.about(j, 0), -2);
            due("4 jar " + j, x.jar(j == 3 ? 5 : j), j);
            due("4 so many", x.count(1), j + 1);
            due("4 COOL is 0 at first", x.about(j, 1), 0);
            due("4 TASTE is none while COOL is 0", x.about(j, 2), -1);
            due("4 it loses nothing", x.about(j, 3), 0);
        }
        due("4 the last kind", x.about(3, 0), 5);
        due("4 FULL: 4", x.jar(0), -4);
        due("4 jar 4 is none", x.about(4, 0), -2);
        due("4 still four", x.count(1), 4);
    }

    // ---- kinds of casters, by height and hour of a day

    private static int given(int kind, int h, int t) {
        NoonShade x = Check.island(t, new int[][] {{kind, h, 0}}, 0);
        int now = x.of(0, 4);
        String who = "kind " + kind + " of height " + h + " at " + t;
        due(who + ": gives(0, 0)", x.gives(0, 0), now);
        due(who + ": gives(0, 24)", x.gives(0, 24), now);
        due(who + ": gives(0, 48)", x.gives(0, 48), now);
        x.note(0, h, t, now);
        due(who + ": a note of it fits", x.is(0) >> kind & 1, 1);
        x.note(0, h, t, now + 1);
        due(who + ": one of 1 more does not", x.is(0) >> kind & 1, 0);
        due(who + ": the ladle", x.ladle(0, 0), now);
        return now;
    }

    private static void walls() {
        int[] half = {1, 1, 2, 2, 3, 3, 4, 4, 5};
        for (int h = 1; h <= 9; h++) {
            for (int t : new int[] {0, 10, 11, 12, 13, 14, 23}) {
                due("WALL: half (cut up) of " + h, given(0, h, t), half[h - 1]);
            }
        }
    }

    private static void trees() {
        int[] more = {2, 3, 5, 6, 8, 9, 11, 12, 14};
        int[] half = {1, 1, 2, 2, 3, 3, 4, 4, 5};
        for (int h = 1; h <= 9; h++) {
            for (int t = 11; t <= 13; t++) {
                due("TREE: " + h + " more than WALL at " + t, given(1, h, t), more[h - 1]);
            }
            for (int t : new int[] {0, 1, 10, 14, 23}) {
                due("TREE: WALL at " + t, given(1, h, t), half[h - 1]);
            }
        }
    }

    private static void figs() {
        int[] noon = {1, 1, 2, 3, 4, 4, 5, 6, 7};
        int[] else0 = {0, 0, 1, 1, 1, 1, 2, 2, 2};
        for (int h = 1; h <= 9; h++) {
            for (int t = 11; t <= 13; t++) {
                due("FIG: half (cut) of TREE of " + h + " at " + t, given(2, h, t), noon[h - 1]);
            }
            for (int t : new int[] {0, 10, 14, 23}) {
                due("FIG: half (cut) of TREE of " + h + " at " + t, given(2, h, t), else0[h - 1]);
            }
        }
    }

    private static void clouds() {
        int[] twice = {2, 2, 4, 4, 6, 6, 8, 8, 10};
        for (int h = 1; h <= 9; h++) {
            for (int t = 0; t < 24; t++) {
                boolean third = "0 3 6 9 12 15 18 21".matches("(.* )?" + t + "( .*)?");
                due("CLOUD of " + h + " at " + t, given(3, h, t), third ? 0 : twice[h - 1]);
            }
        }
    }

    private static void men() {
        int[] from12 = {9, 9, 9, 9, 8, 7, 6, 5, 4, 3, 2, 1, 0, 1, 2, 3, 4, 5, 6, 7, 8, 9, 9, 9};
        for (int h : new int[] {1, 2, 9}) {
            for (int t = 0; t < 24; t++) {
                due("MAN of " + h + " at " + t, given(4, h, t), (h == 9 ? 5 : 1) + from12[t]);
            }
        }
    }

    private static void pergolas() {
        int[] noon = {5, 6, 8, 9, 11, 12, 14, 15, 17};
        int[] else0 = {4, 4, 5, 5, 6, 6, 7, 7, 8};
        for (int h = 1; h <= 9; h++) {
            for (int t : new int[] {0, 10, 11, 13, 14, 23}) {
                due("PERGOLA of " + h + " at " + t, given(5, h, t), t >= 11 && t <= 13 ? noon[h - 1] : else0[h - 1]);
            }
        }
    }

    // ---- kinds of jars, by cool and hour of a day

    /** What is lost in the next hour is one number, by whatever call it is told. */
    private static void loses(int kind, int t, int cool, int lost) {
        String who = "jar of kind " + kind + " with " + cool + " at " + t;
        NoonShade x = Check.filled(kind, t, cool);
        due(who + " has it", x.about(0, 1), cool);
        due(who + " loses", x.about(0, 3), lost);
        due(who + " keeps", x.keeps(0, 1), cool - lost);
        due(who + " now", x.keeps(0, 0), cool);
        x.hours(1);
        due(who + ", an hour on", x.about(0, 1), cool - lost);
        due(who + ": its taste", x.about(0, 2), cool == lost ? -1 : 0);
    }

    private static void everyJarAtItsEdges() {
        for (int t : new int[] {0, 5, 6, 23}) {
            int[][] clay = {{0, 0}, {1, 1}, {2, 1}, {59, 1}, {60, 1}};
            int[][] glass = {{0, 0}, {1, 1}, {2, 2}, {3, 3}, {4, 3}, {60, 3}};
            int[][] cracked = {{0, 0}, {1, 1}, {2, 2}, {3, 3}, {4, 3}, {9, 3}, {10, 4}, {11, 4}, {19, 4}, {20, 5}, {29, 5}, {30, 6},
                {49, 7}, {50, 8}, {59, 8}, {60, 9}};
            int[][] wicker = {{0, 0}, {1, 1}, {2, 1}, {3, 2}, {4, 2}, {5, 3}, {58, 29}, {59, 30}, {60, 30}};
            eachLoses(0, t, clay);
            eachLoses(1, t, glass);
            eachLoses(3, t, cracked);
            eachLoses(4, t, wicker);
        }
        for (int t : new int[] {6, 7, 12, 22, 23}) {
            eachLoses(2, t, new int[][] {{0, 0}, {1, 1}, {2, 1}, {19, 1}, {20, 1}, {60, 1}});
            eachLoses(5, t, new int[][] {{0, 0}, {1, 1}, {2, 1}, {18, 1}, {19, 1}, {20, 0}, {21, 0}, {60, 0}});
        }
        for (int t : new int[] {0, 1, 4, 5}) {
            eachLoses(2, t, new int[][] {{0, 0}, {1, 0}, {19, 0}, {20, 0}, {60, 0}});
            eachLoses(5, t, new int[][] {{0, 0}, {1, 0}, {19, 0}, {20, 0}, {60, 0}});
        }
    }

    private static void eachLoses(int kind, int t, int[][] rows) {
        for (int[] row : rows) {
            loses(kind, t, row[0], row[1]);
        }
    }

    private static void jarsAtEveryCool() {
        for (int cool = 0; cool <= 60; cool++) {
            int some = Math.min(cool, 1);
            loses(0, 12, cool, some);
            loses(1, 12, cool, Math.min(cool, 3));
            loses(2, 12, cool, some);
            loses(3, 12, cool, Math.min(cool, 3 + (cool - cool % 10) / 10));
            loses(4, 12, cool, cool - cool / 2);
            loses(5, 12, cool, cool > 19 ? 0 : some);
        }
    }

    /** An hour is one for all jars, and each loses as its own kind tells. */
    private static void eachJarLosesByItself() {
        NoonShade x = Check.island(12, new int[][] {{5, 9, 0}, {5, 9, 1}, {5, 9, 2}, {5, 9, 3}}, 1, 4, 0, 3);
        for (int i = 0; i < 4; i++) {
            x.ladle(i, i);
        }
        x.hours(1);
        int[] left = {14, 8, 16, 13};
        for (int j = 0; j < 4; j++) {
            due("11 jar " + j + " behind an hour", x.about(j, 1), left[j]);
            due("11 its taste stays", x.about(j, 2), j);
        }
        due("36 COOL of all JARS", x.count(2), 51);
    }

    // ---- the ladle

    private static void ladleUpToSixty() {
        int[][] rows = {{54, 5, 59}, {55, 5, 60}, {56, 4, 60}, {57, 3, 60}, {59, 1, 60}};
        for (int[] row : rows) {
            NoonShade x = Check.filled(0, 12, row[0]);
            due("8 a ladle of 5 to " + row[0], x.ladle(5, 0), row[1]);
            due("8 cool", x.about(0, 1), row[2]);
            due("8 taste", x.about(0, 2), 0);
            due("8 milked", x.of(5, 3), 1);
        }
        NoonShade full = Check.filled(0, 12, 60);
        int milked = full.count(4);
        int steps = full.count(8);
        due("8 a ladle of 1 to 60", full.ladle(6, 0), 0);
        due("8 60 at most", full.about(0, 1), 60);
        due("8 the CASTER is MILKED", full.count(4), milked + 1);
        due("8 it may be undone", full.count(8), Math.min(8, steps + 1));
        due("8 again, in this HOUR", full.ladle(6, 1), -3);
        NoonShade x = Check.filled(0, 12, 59);
        x.hours(1);
        due("8 a ladle of 4 to 58: two", x.ladle(6, 0), 2);
    }

    private static void ladleTastes() {
        NoonShade x = Check.island(13, new int[][] {{0, 1, 1}, {0, 1, 1}, {0, 1, 2}, {0, 1, 1}, {3, 9, 3}, {0, 1, 3}, {0, 9, 0}}, 0, 5);
        x.hours(2);
        due("8 a cloud at 15: nothing comes", x.ladle(4, 0), 0);
        dueNow("8 no taste of it", x, 0, -1, 0, -1);
        x.ladle(0, 0);
        dueNow("8 COOL was 0: the CASTER's", x, 1, 1, 0, -1);
        x.ladle(1, 0);
        dueNow("8 that was its TASTE", x, 2, 1, 0, -1);
        x.ladle(2, 0);
        dueNow("8 else 4", x, 3, 4, 0, -1);
        x.ladle(3, 0);
        dueNow("8 4 stays 4", x, 4, 4, 0, -1);
        x.hours(4);
        dueNow("8 all lost, no taste", x, 0, -1, 0, -1);
        x.ladle(5, 0);
        dueNow("8 a new taste in the emptied one", x, 1, 3, 0, -1);
        NoonShade y = Check.island(13, new int[][] {{0, 1, 0}, {3, 9, 3}}, 5, 5);
        y.hours(2);
        y.ladle(0, 0);
        due("8 a cloud at 15, into one that has some", y.ladle(1, 0), 0);
        dueNow("8 nothing came, the TASTE stays", y, 1, 0, 0, -1);
        NoonShade full = Check.island(12, new int[][] {{5, 9, 0}, {5, 9, 0}, {5, 9, 0}, {5, 4, 0}, {0, 1, 3}, {0, 1, 1}}, 5, 5);
        full.ladle(0, 0);
        full.ladle(1, 0);
        full.ladle(2, 0);
        due("8 nine more are sixty", full.ladle(3, 0), 9);
        due("8 none comes to sixty", full.ladle(4, 0), 0);
        dueNow("8 none came, the TASTE stays", full, 60, 0, 0, -1);
    }

    // ---- the pouring

    private static void pourUpToSixty() {
        // what was there, what came of five, what is left of them
        int[][] rows = {{0, 5, 0}, {30, 5, 0}, {54, 5, 0}, {55, 5, 0}, {56, 4, 1}, {59, 1, 4}};
        for (int[] row : rows) {
            NoonShade x = Check.filled(0, 12, row[0]);
            x.ladle(5, 1);
            int steps = x.count(8);
            due("9 five into " + row[0], x.pours(1, 0), row[1]);
            dueNow("9 five into " + row[0], x, row[0] + row[1], 0, row[2], row[2] == 0 ? -1 : 0);
            due("9 one more may be undone", x.count(8), Math.min(8, steps + 1));
        }
        NoonShade full = Check.filled(0, 12, 60);
        full.ladle(6, 1);
        due("9 one into sixty: nothing goes in", full.pours(1, 0), 0);
        dueNow("9 one into sixty", full, 60, 0, 1, 0);
        due("9 sixty into one: as much as goes in", full.pours(0, 1), 59);
        dueNow("9 sixty into one", full, 1, 0, 60, 0);
        due("9 none of these is refused", Calls.refusals(full), 0);
        due("9 one into sixty again", full.pours(0, 1), 0);
        due("9 sixty into an emptied one", emptied(full).pours(1, 0), 60);
        dueNow("9 sixty into an emptied one", full, 60, 0, 0, -1);
        due("9 NO: it has nothing", full.pours(1, 0), -3);
    }

    private static NoonShade emptied(NoonShade x) {
        x.sells(0);
        return x;
    }

    private static void pourTastes() {
        NoonShade x = Check.island(12, new int[][] {{0, 9, 0}, {0, 9, 3}, {0, 9, 0}, {0, 9, 3}, {0, 9, 0}}, 0, 0);
        x.ladle(0, 0);
        x.pours(0, 1);
        dueNow("9 into an empty one: its TASTE", x, 0, -1, 5, 0);
        x.ladle(2, 0);
        x.pours(0, 1);
        dueNow("9 the same TASTE stays", x, 0, -1, 10, 0);
        x.ladle(1, 0);
        x.pours(0, 1);
        dueNow("9 another one: 4", x, 0, -1, 15, 4);
        x.ladle(3, 0);
        x.pours(0, 1);
        dueNow("9 into a mixed one: 4", x, 0, -1, 20, 4);
        x.pours(1, 0);
        dueNow("9 a mixed one into an empty one: 4", x, 20, 4, 0, -1);
        x.ladle(4, 1);
        x.pours(0, 1);
        dueNow("9 a mixed one into another one: 4", x, 0, -1, 25, 4);
        NoonShade y = Check.island(12, new int[][] {{5, 9, 1}, {5, 9, 1}, {5, 9, 1}, {5, 9, 1}, {5, 9, 2}, {5, 9, 2}}, 0, 0);
        for (int i = 0; i < 6; i++) {
            y.ladle(i, i / 4);
        }
        due("9 none goes in", y.pours(1, 0), 0);
        dueNow("9 so both TASTES stay", y, 60, 1, 34, 2);
        due("9 some goes in", y.pours(0, 1), 26);
        dueNow("9 what is left keeps its TASTE", y, 34, 1, 60, 4);
    }

    // ---- the sale

    private static void saleOfOneAndOfSixty() {
        for (int cool : new int[] {1, 2, 59, 60}) {
            NoonShade x = Check.filled(0, 12, cool);
            due("10 twice " + cool, x.sells(0), 2 * cool);
            due("10 SOLD", x.count(5), 2 * cool);
            dueNow("10 COOL is 0", x, 0, -1, 0, -1);
            due("10 NO: it has nothing", x.sells(0), -3);
            due("10 SOLD stays", x.count(5), 2 * cool);
        }
        for (int taste = 0; taste <= 3; taste++) {
            NoonShade x = Check.island(12, new int[][] {{0, 9, taste}, {0, 1, (taste + 1) % 4}}, 0, 0);
            x.ladle(0, 0);
            x.image(0);
            due("10 twice that, of taste " + taste, x.sells(0), 10);
            x.from(0);
            x.ladle(1, 0);
            due("10 once, if its TASTE is 4", x.sells(0), 6);
        }
    }

    private static void soldUpTo9999() {
        NoonShade x = Check.island(12, new int[][] {{5, 9, 0}, {5, 9, 0}, {5, 9, 0}, {5, 9, 0}, {5, 9, 1}, {5, 9, 1}, {5, 9, 1}}, 0, 0);
        for (int day = 1; day <= 45; day++) {
            for (int i = 0; i < 7; i++) {
                x.ladle(i, i / 4);
            }
            x.sells(0);
            x.sells(1);
            x.hours(day < 45 ? 24 : 2);
        }
        due("10 SOLD", x.count(5), 9990);
        x.image(0);
        // off noon a pergola gives 8: two of them are 16, mixed; clay loses one an hour
        int[][] mixed = {{8, 8, 9998}, {7, 9, 9999}, {6, 9, 9999}};
        for (int[] m : mixed) {
            x.from(0);
            x.ladle(0, 0);
            x.ladle(4, 0);
            x.hours(m[0]);
            due("10 " + (16 - m[0]) + " mixed to 9990", x.sells(0), m[1]);
            due("10 SOLD", x.count(5), m[2]);
        }
        int[][] twice = {{4, 8, 9998}, {3, 9, 9999}};
        for (int[] m : twice) {
            x.from(0);
            x.ladle(0, 0);
            x.hours(m[0]);
            due("10 twice " + (8 - m[0]) + " to 9990", x.sells(0), m[1]);
            due("10 SOLD", x.count(5), m[2]);
        }
        x.ladle(1, 1);
        due("10 nothing more at 9999", x.sells(1), 0);
        due("10 COOL is 0 all the same", x.about(1, 1), 0);
        x.undo();
        due("10 that may be undone", x.about(1, 1), 8);
    }

    // ---- the hour

    private static void hourEndsMilked() {
        NoonShade x = Check.island(12, new int[][] {{0, 9, 0}, {0, 9, 1}}, 0);
        due("8 milked", x.ladle(0, 0) + x.ladle(0, 0), 5 - 3);
        due("11 an hour", x.hours(1), 13);
        due("11 no CASTER is MILKED", x.count(4), 0);
        due("8 again", x.ladle(0, 0), 5);
        due("36 one is", x.count(4), 1);
        due("12 undone", x.undo(), 13);
        due("12 none is", x.count(4), 0);
        due("12 undone, the hour", x.undo(), 12);
        due("12 the first one is again", x.of(0, 3), 1);
        due("8 so it is refused", x.ladle(0, 0), -3);
        due("8 the other one is not", x.ladle(1, 0), 5);
    }

    private static NoonShade lateIsland(int before9999) {
        NoonShade x = Check.island(99, new int[][] {{0, 9, 0}, {3, 9, 0}}, 0);
        for (int k = 0; k < 164; k++) {
            x.hours(60);
        }
        if (before9999 < 60) {
            x.hours(60 - before9999);
        }
        return x;
    }

    private static void hoursUpTo9999() {
        NoonShade x = lateIsland(60);
        due("11 sixty more are 9999", x.hours(60), 9999);
        due("11 undone", x.undo(), 9939);
        due("11 59 more", x.hours(59), 9998);
        due("11 one more", x.hours(1), 9999);
        due("11 one that may be undone", x.undo(), 9998);
        x.ladle(0, 0);
        due("11 two more: only one goes by", x.hours(2), 9999);
        due("11 so one is lost", x.about(0, 1), 4);
        due("11 none is MILKED", x.count(4), 0);
        due("11 together one", x.undo(), 9998);
        due("11 as ahead of it", x.about(0, 1), 5);
        due("11 sixty more: only one goes by", x.hours(60), 9999);
        due("11 so one is lost", x.about(0, 1), 4);
        x.ladle(1, 0);
        int steps = x.count(8);
        for (int n : new int[] {1, 2, 60}) {
            due("11 at 9999 none: " + n, x.hours(n), 9999);
            due("11 nothing is lost", x.about(0, 1), 4);
            due("11 MILKED as it was", x.count(4), 1);
            due("11 none more may be undone", x.count(8), steps);
        }
        due("11 none of it is refused", Calls.refusals(x), 0);
        due("11 BAD at 9999, too", x.hours(0), -2);
        due("11 BAD at 9999, too", x.hours(61), -2);
        due("12 the ladle at 9999 is undone", x.undo(), 9999);
        due("12 not MILKED", x.count(4), 0);
        due("12 the hour ahead of it is undone", x.undo(), 9998);
        // 9999 is 15 of a day: three divides it
        NoonShade y = lateIsland(1);
        due("9998 is 14 of a day", y.of(1, 4), 10);
        y.hours(1);
        due("9999 is 15 of a day", y.of(1, 4), 0);
        due("9999: gives now", y.gives(1, 0), 0);
        due("9999: gives an hour on", y.gives(1, 1), 10);
    }

    private static void hoursThatCrossMidnight() {
        NoonShade x = Check.filled(2, 22, 10);
        due("11 stone from 22 to 6", x.hours(8), 54);
        due("11 it lost at 22 and 23", x.about(0, 1), 8);
        x.hours(1);
        due("11 and at 6", x.about(0, 1), 7);
        NoonShade y = Check.filled(2, 22, 10);
        for (int k = 0; k < 8; k++) {
            y.hours(1);
        }
        due("11 one by one it is the same", y.about(0, 1), 8);
        NoonShade z = Check.filled(5, 6, 20);
        z.hours(60);
        due("11 a cellar keeps 20", z.about(0, 1), 20);
        NoonShade w = Check.filled(5, 6, 19);
        w.hours(18);
        due("11 it loses 18 of 19 by midnight", w.about(0, 1), 1);
        w.hours(6);
        due("11 and nothing below 6", w.about(0, 1), 1);
        w.hours(1);
        due("11 and the last one then", w.about(0, 1), 0);
    }

    // ---- undo

    private static void undoEight() {
        for (int done = 0; done <= 12; done++) {
            NoonShade x = new NoonShade();
            for (int k = 0; k < done; k++) {
                x.hours(1);
            }
            int may = Math.min(8, done);
            due("12 8 at most, of " + done, x.count(8), may);
            for (int k = 1; k <= may; k++) {
                due("12 back " + k + " of " + done, x.undo(), done - k);
                due("12 so many are left", x.count(8), may - k);
            }
            due("12 NO: none may be", x.undo(), -3);
            due("12 the hour stays", x.count(3), done - may);
            due("12 none of BAD or FULL", x.status(0) + x.status(2), 0);
            due("12 one NO", x.status(1), 1);
            due("12 it goes on from there", x.hours(3), done - may + 3);
            due("12 and that may be undone", x.undo(), done - may);
        }
    }

    private static void undoOfNothingThatCame() {
        NoonShade x = Check.island(12, new int[][] {{3, 9, 0}}, 0, 0);
        due("8 a cloud at 12", x.ladle(0, 0), 0);
        due("12 it may be undone", x.count(8), 1);
        due("12 undone", x.undo(), 12);
        due("12 it is not MILKED", x.of(0, 3), 0);
        NoonShade full = Check.filled(5, 12, 60);
        full.ladle(6, 1);
        full.image(0);
        due("9 nothing goes in", full.pours(1, 0), 0);
        due("12 undone: the pouring alone", full.undo() * 0 + full.about(1, 1), 1);
        full.undo();
        due("12 undone: the ladle, too", full.about(1, 1), 0);
    }

    private static void undoBringsBackAll() {
        NoonShade x = Check.island(12, new int[][] {{1, 9, 0}, {5, 9, 1}, {0, 9, 2}, {0, 7, 3}}, 0, 1, 2, 3);
        String[] ahead = new String[8];
        int[][] steps = {{0, 0, 0}, {0, 1, 1}, {1, 0, 1}, {0, 2, 2}, {2, 1, 0}, {0, 3, 3}, {3, 1, 0}, {1, 3, 0}};
        for (int k = 0; k < 8; k++) {
            ahead[k] = undoable(x);
            int[] s = steps[k];
            int came = s[0] == 0 ? x.ladle(s[1], s[2]) : s[0] == 1 ? x.pours(s[1], s[2]) : s[0] == 2 ? x.sells(s[1]) : x.hours(s[1]);
            CHECK.holds("12 step " + k + " answered " + came, came > 0);
            CHECK.holds("12 step " + k + " is seen", !undoable(x).equals(ahead[k]));
        }
        for (int k = 7; k >= 0; k--) {
            x.undo();
            CHECK.holds("12 as ahead of step " + k, undoable(x).equals(ahead[k]));
        }
    }

    /** SOLD, the HOUR, COOL, TASTES of four JARS, who of four CASTERS is MILKED. */
    private static String undoable(NoonShade x) {
        StringBuilder s = new StringBuilder().append(x.count(5)).append(' ').append(x.count(3));
        for (int k = 0; k < 4; k++) {
            s.append(' ').append(x.about(k, 1)).append(' ').append(x.about(k, 2)).append(' ').append(x.of(k, 3));
        }
        return s.toString();
    }

    private static void undoLeavesTheRest() {
        NoonShade x = Check.island(12, new int[][] {{1, 9, 0}}, 0);
        x.image(1);
        x.ladle(0, 0);
        x.note(0, 1, 2, 3);
        x.mark(0, 1, 2, 3);
        x.mark(0, 1, 2, 3);
        x.type('i');
        x.spilt(0, 0, 1, 0);
        x.image(0);
        x.jar(6);
        due("12 undone", x.undo(), 12);
        int[] there = {1, 1, 0, 12, 0, 0, 1, 2, 0, 1};
        for (int what = 0; what <= 9; what++) {
            due("12 count(" + what + ")", x.count(what), there[what]);
        }
        due("12 THE FRACTION stays", x.part(0), 1);
        due("12 STATUS stays", x.status(0), 1);
        due("12 the image stays", x.from(0), 1);
        due("12 it has the ladle", x.about(0, 1), 14);
        due("12 which may be undone", x.count(8), 1);
        due("12 the other one stays", x.from(1), 1);
        due("12 it has nothing to undo", x.count(8), 0);
    }

    private static void noneToUndoBehindACasterOrAJar() {
        for (int which = 0; which <= 1; which++) {
            NoonShade x = Check.island(12, new int[][] {{1, 9, 0}}, 0);
            x.ladle(0, 0);
            x.hours(1);
            due("12 two may be", x.count(8), 2);
            due("12 refused: they still may", which == 0 ? x.caster(0, 0, 0) : x.jar(6), -2);
            due("12 two may be", x.count(8), 2);
            due("12 it comes", which == 0 ? x.caster(0, 1, 0) : x.jar(1), 1);
            due("12 none may be", x.count(8), 0);
            due("12 NO", x.undo(), -3);
            due("12 what was done stays", x.about(0, 1), 13);
            due("12 the hour stays", x.hours(2), 15);
            due("12 only what was done behind it", x.undo(), 13);
            due("12 NO", x.undo(), -3);
        }
        NoonShade full = Check.island(12, new int[][] {{0, 1, 0}, {0, 1, 0}, {0, 1, 0}, {0, 1, 0}, {0, 1, 0}, {0, 1, 0}, {0, 1, 0}}, 0, 0, 0, 0);
        full.hours(1);
        due("12 FULL: no CASTER comes", full.caster(0, 1, 0), -4);
        due("12 FULL: no JAR comes", full.jar(0), -4);
        due("12 it still may be undone", full.undo(), 12);
    }
}
