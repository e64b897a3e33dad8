/** What is asked (gives .. noons) at its edges: like ones, none, the first and the last, beyond hour 9999, nothing changed. */
public final class AskedEdgesTest {
    private static final Check CHECK = new Check();

    public static void main(String[] args) {
        nothingIsChanged();
        beyondTheLastHour();
        givesUpToSixty();
        keepsUpToSixty();
        whenOfLikeOnes();
        goneUpToSixty();
        roundOfLikeOnes();
        roundOfMilkedOnes();
        roundUpToSixty();
        roundLooksAhead();
        fewUpToSixty();
        fewOfLikeOnes();
        fewOfATaste();
        intoOfLikeOnes();
        intoNone();
        intoUpToSixty();
        notesUpToSix();
        marksUpToSix();
        isAtTheEdges();
        lookAtTheEdges();
        kindsAtTheEdges();
        askAtTheEdges();
        twoTheSame();
        twoOfLikeOnes();
        twoTastes();
        spiltNoneAndAll();
        spiltUpToSixty();
        spiltInLowestTerms();
        noonsAtTheEdges();
        CHECK.finish("AskedEdgesTest");
    }

    private static void due(String call, long got, long want) {
        CHECK.due(call, got, want);
    }

    // ---- nothing is changed by these; hours go beyond 9999 in them

    private static NoonShade busy() {
        NoonShade x = Check.island(10, new int[][] {{1, 9, 2}, {5, 8, 1}, {3, 7, 2}, {4, 6, 0}, {2, 9, 3}}, 5, 3, 4);
        x.ladle(1, 0);
        x.image(0);
        x.ladle(0, 1);
        x.hours(1);
        x.ladle(0, 0);
        x.ladle(2, 2);
        x.note(0, 9, 12, 14);
        x.mark(1, 30, 3, 6);
        x.image(1);
        x.ladle(1, 1);
        Check.type(x, "island 4;jar 2;");
        return x;
    }

    private static void nothingIsChanged() {
        NoonShade x = busy();
        int refusals = Calls.refusals(x);
        for (int m : new int[] {0, 1, 60}) {
            x.gives(2, m);
            x.keeps(0, m);
            x.noons(7, m);
        }
        for (int n = 1; n <= 4; n++) {
            x.round(0, n, -2);
            x.round(1, n, n - 1);
            x.round(2, n, n);
        }
        for (int k = -1; k < 4; k++) {
            x.two(k);
        }
        x.when(1);
        x.gone(0);
        x.gone(2);
        x.few(0, 2, 60, 0);
        x.few(2, 2, 9, 1);
        x.into(0, 30, 0);
        x.into(1, 1, 1);
        x.is(0);
        x.look(0);
        x.kinds(1);
        x.ask(1);
        x.noons(999999, 60);
        for (int what = 0; what <= 9; what++) {
            x.count(what);
        }
        x.of(0, 4);
        x.about(0, 3);
        x.part(0);
        x.digest();
        due("none of these is refused", Calls.refusals(x), refusals);
        CHECK.holds("nothing is changed by these", Calls.allOf(x).equals(Calls.allOf(busy())));
        NoonShade spilt = busy();
        spilt.spilt(0, 4, 60, 5);
        spilt.spilt(1, 3, 12, 5);
        spilt.spilt(0, 0, 1, 5);
        due("30 THE FRACTION is changed", spilt.part(0), 1);
        NoonShade other = busy();
        other.spilt(0, 0, 0, 9);
        CHECK.holds("30 nothing else is changed", Calls.allOf(spilt).equals(Calls.allOf(other)));
    }

    /** 9999 is 15 of a day, so that all is as at hour 15. */
    private static void beyondTheLastHour() {
        NoonShade late = new NoonShade();
        late.island(99);
        for (int k = 0; k < 165; k++) {
            late.hours(60);
        }
        due("11 9999", late.count(3), 9999);
        NoonShade early = new NoonShade();
        early.island(15);
        for (NoonShade x : new NoonShade[] {late, early}) {
            int[][] casters = {{1, 9, 2}, {5, 8, 1}, {4, 7, 2}, {3, 6, 0}, {2, 9, 3}};
            for (int[] c : casters) {
                x.caster(c[0], c[1], c[2]);
            }
            for (int kind : new int[] {2, 3, 4, 5}) {
                x.jar(kind);
            }
            for (int i = 0; i < 4; i++) {
                x.ladle(i, i);
            }
        }
        for (int m : new int[] {0, 9, 60}) {
            for (int k = 0; k < 4; k++) {
                same("gives", late, early, k, m);
                same("keeps", late, early, k, m);
            }
            same("noons", late, early, 5, m);
            same("noons", late, early, 70707, m);
        }
        for (int k = 0; k < 4; k++) {
            same("when", late, early, k);
            same("gone", late, early, k);
            same("into", late, early, k, 20, 1);
            same("into", late, early, k, 20, 0);
            for (int n = 1; n <= 4; n++) {
                same("round", late, early, k, n, -2);
                same("round", late, early, k, n, n - 1);
            }
            same("spilt", late, early, k, 4, 15, 3);
            same("part", late, early, 0);
            same("about", late, early, k, 3);
        }
        due("nothing is changed", late.count(3), 9999);
        due("15 a pergola at 9999 and 20 hours, which is 11", late.gives(1, 20), 15);
    }

    private static void same(String name, NoonShade late, NoonShade early, int... a) {
        due("at 9999: " + Calls.told(name, a), Calls.ask(late, name, a), Calls.ask(early, name, a));
    }

    // ---- how much

    private static void givesUpToSixty() {
        NoonShade x = Check.island(11, new int[][] {{1, 9, 0}, {3, 9, 0}});
        // 11 and 60 is 71: 23 of a day
        int[][] tree = {{0, 14}, {1, 14}, {2, 14}, {3, 5}, {23, 5}, {24, 14}, {26, 14}, {27, 5}, {47, 5}, {48, 14}, {50, 14}, {51, 5}, {60, 5}};
        for (int[] t : tree) {
            due("15 a tree behind " + t[0], x.gives(0, t[0]), t[1]);
        }
        int[][] cloud = {{0, 10}, {1, 0}, {12, 10}, {13, 0}, {58, 0}, {59, 10}, {60, 10}};
        for (int[] t : cloud) {
            due("15 a cloud behind " + t[0], x.gives(1, t[0]), t[1]);
        }
        x.jar(0);
        x.ladle(0, 0);
        due("15 MILKED or not", x.gives(0, 0), 14);
        NoonShade y = Check.island(0, new int[][] {{1, 9, 0}});
        due("15 behind 59 it is 11 of a day", y.gives(0, 59), 14);
        due("15 behind 60 it is 12 of a day", y.gives(0, 60), 14);
        NoonShade z = Check.island(1, new int[][] {{1, 9, 0}});
        due("15 behind 60 it is 13 of a day", z.gives(0, 60), 14);
        NoonShade w = Check.island(2, new int[][] {{1, 9, 0}});
        due("15 behind 60 it is 14 of a day", w.gives(0, 60), 5);
    }

    private static void keepsUpToSixty() {
        NoonShade x = Check.filled(0, 12, 60);
        due("16 behind none", x.keeps(0, 0), 60);
        due("16 behind one", x.keeps(0, 1), 59);
        due("16 behind 59", x.keeps(0, 59), 1);
        due("16 behind 60", x.keeps(0, 60), 0);
        NoonShade y = Check.filled(5, 12, 20);
        due("16 a cellar with 20", y.keeps(0, 60), 20);
        due("16 a cellar with 19, until midnight", Check.filled(5, 12, 19).keeps(0, 12), 7);
        due("16 a cellar with 19, until 6", Check.filled(5, 12, 19).keeps(0, 18), 7);
        due("16 a cellar with 19, until 13", Check.filled(5, 12, 19).keeps(0, 25), 0);
        int[] left = {60, 51, 43, 36, 30, 24};
        NoonShade cracked = Check.filled(3, 12, 60);
        for (int m = 0; m < left.length; m++) {
            due("16 cracked, behind " + m, cracked.keeps(0, m), left[m]);
        }
        due("16 an empty one", x.keeps(1, 60), 0);
    }

    private static void whenOfLikeOnes() {
        // hours until a tree gives most, by hour of a day: of like ones the least
        for (int t = 0; t < 24; t++) {
            NoonShade x = Check.island(t, new int[][] {{0, 9, 0}, {1, 1, 0}, {2, 1, 0}, {2, 3, 0}, {3, 1, 0}, {4, 9, 0}, {5, 9, 0}}, 0);
            int noon = t < 11 ? 11 - t : t <= 13 ? 0 : 35 - t;
            due("17 a wall at " + t, x.when(0), 0);
            due("17 a tree at " + t, x.when(1), noon);
            due("17 a fig of 1 at " + t, x.when(2), noon);
            due("17 a cloud at " + t, x.when(4), t % 3 == 0 ? 1 : 0);
            due("17 a man at " + t, x.when(5), t <= 3 || t >= 21 ? 0 : 21 - t);
            due("17 a pergola at " + t, x.when(6), noon);
            x.ladle(6, 0);
            due("17 MILKED or not, at " + t, x.when(6), noon);
        }
    }

    private static void goneUpToSixty() {
        due("18 COOL is 0: behind none", Check.filled(0, 12, 0).gone(0), 0);
        due("18 one of clay", Check.filled(0, 12, 1).gone(0), 1);
        due("18 59 of clay", Check.filled(0, 12, 59).gone(0), 59);
        due("18 60 of clay", Check.filled(0, 12, 60).gone(0), 60);
        due("18 one of glass", Check.filled(1, 12, 1).gone(0), 1);
        due("18 3 of glass", Check.filled(1, 12, 3).gone(0), 1);
        due("18 4 of glass", Check.filled(1, 12, 4).gone(0), 2);
        due("18 60 of glass", Check.filled(1, 12, 60).gone(0), 20);
        due("18 60 of wicker", Check.filled(4, 12, 60).gone(0), 6);
        // from 6 stone loses 18 by midnight, nothing until 6: 48 are gone behind 60 hours
        due("18 47 of stone from 6", Check.filled(2, 6, 47).gone(0), 59);
        due("18 48 of stone from 6", Check.filled(2, 6, 48).gone(0), 60);
        due("18 49 of stone from 6: none", Check.filled(2, 6, 49).gone(0), -1);
        due("18 60 of stone from 6: none", Check.filled(2, 6, 60).gone(0), -1);
        // from 0 it is 6 hours without a loss first
        due("18 one of stone from 0", Check.filled(2, 0, 1).gone(0), 7);
        due("18 42 of stone from 0", Check.filled(2, 0, 42).gone(0), 60);
        due("18 43 of stone from 0: none", Check.filled(2, 0, 43).gone(0), -1);
        due("18 19 of a cellar from 6", Check.filled(5, 6, 19).gone(0), 25);
        due("18 20 of a cellar from 6: none", Check.filled(5, 6, 20).gone(0), -1);
        NoonShade x = Check.filled(5, 6, 20);
        x.gone(0);
        due("18 none is not refused", Calls.refusals(x), 0);
    }

    private static void dueRow(String call, NoonShade x, int j, int most, int... row) {
        due(call + ": how much", x.round(j, row.length, -2), most);
        for (int k = 0; k < row.length; k++) {
            due(call + ": " + k, x.round(j, row.length, k), row[k]);
        }
    }

    private static void roundOfLikeOnes() {
        NoonShade x = Check.island(14, new int[][] {{0, 1, 0}, {0, 9, 0}, {0, 9, 0}}, 0);
        dueRow("19 the first of like ones", x, 0, 4, 1);
        dueRow("19 the first row of like ones", x, 0, 8, 1, 1);
        NoonShade cloud = Check.island(12, new int[][] {{3, 9, 0}}, 0);
        dueRow("19 one that gives nothing is ahead of none", cloud, 0, 0, 0);
        NoonShade wicker = Check.island(14, new int[][] {{0, 1, 0}, {0, 3, 0}, {0, 9, 0}}, 4);
        // the first ladle of 1 or of 2 leaves 0 or 1: 1 and 5 are 6, half of it 3; 5 are 5, half of it 2
        dueRow("19 what is lost by rounding counts", wicker, 0, 3, 1, 2);
        NoonShade glass = Check.island(14, new int[][] {{0, 5, 0}, {0, 3, 0}}, 1);
        dueRow("19 all is lost: the first row", glass, 0, 0, 0, 0, 0, 0);
        dueRow("19 one alone", glass, 0, 0, 0);
    }

    private static void roundOfMilkedOnes() {
        NoonShade x = Check.island(14, new int[][] {{0, 9, 0}, {0, 3, 0}}, 0, 0);
        x.ladle(0, 1);
        dueRow("19 not the one that is MILKED", x, 0, 1, 1);
        dueRow("19 it is free in the next HOUR", x, 0, 5, 1, 0);
        x.ladle(1, 1);
        dueRow("19 none: NONE", x, 0, 0, -1);
        dueRow("19 none, then the first", x, 0, 4, -1, 0);
        dueRow("19 none, then the first three times", x, 0, 12, -1, 0, 0, 0);
        due("19 of the other jar", x.round(1, 1, -2), 6);
        NoonShade none = Check.island(14, new int[][] {}, 0);
        dueRow("19 no CASTERS", none, 0, 0, -1, -1, -1, -1);
        NoonShade seven = Check.island(14, new int[][] {{0, 1, 0}, {0, 1, 0}, {0, 1, 0}, {0, 1, 0}, {0, 1, 0}, {0, 1, 0}, {0, 9, 0}}, 0, 0, 0, 0);
        dueRow("19 the last of seven, for the last of four", seven, 3, 16, 6, 6, 6, 6);
    }

    private static void roundUpToSixty() {
        NoonShade x = Check.filled(5, 12, 55);
        due("19 five more are sixty", x.round(0, 1, -2), 60);
        due("19 more is not to be had", x.round(0, 4, -2), 60);
        NoonShade y = Check.filled(0, 12, 60);
        dueRow("19 sixty of clay: any CASTER does, but 0 .. 5 are MILKED", y, 0, 59, 6);
        dueRow("19 an hour on one more is as good as five", y, 0, 59, 6, 0);
        NoonShade z = Check.filled(0, 12, 60);
        z.ladle(6, 1);
        dueRow("19 all are MILKED", z, 0, 59, -1);
    }

    /** Each hour has its own: what gives most then. */
    private static void roundLooksAhead() {
        NoonShade x = Check.island(9, new int[][] {{1, 9, 0}, {3, 9, 0}, {4, 9, 0}}, 2);
        // at 9: 5, 0, 8; at 10: 5, 10, 7; at 11: 14, 10, 6; at 12: 14, 0, 5
        dueRow("19 four hours to noon", x, 0, 42, 2, 1, 0, 0);
        NoonShade night = Check.island(23, new int[][] {{4, 1, 0}, {0, 9, 0}}, 2);
        // a man of 1 gives 10 at 23, 0, 1, 2; stone loses only at 23
        dueRow("19 over midnight", night, 0, 39, 0, 0, 0, 0);
    }

    private static void fewUpToSixty() {
        NoonShade sixty = Check.island(12, new int[][] {{5, 9, 0}, {5, 9, 0}, {5, 9, 0}, {5, 4, 0}}, 0);
        due("20 17 three times and 9 are 60", sixty.few(0, 0, 60, 0), 4);
        due("20 which", sixty.few(0, 0, 60, 1), 15);
        due("20 51 by three", sixty.few(0, 0, 51, 0), 3);
        due("20 52 by four", sixty.few(0, 0, 52, 0), 4);
        NoonShade less = Check.island(12, new int[][] {{5, 9, 0}, {5, 9, 0}, {5, 9, 0}, {1, 5, 0}}, 0);
        due("20 17 three times and 8 are 59", less.few(0, 0, 59, 0), 4);
        due("20 none: 60", less.few(0, 0, 60, 0), -1);
        due("20 none: 60, which", less.few(0, 0, 60, 1), -1);
        NoonShade x = Check.filled(0, 12, 60);
        due("20 it has 60: none is needed", x.few(0, 0, 60, 0), 0);
        due("20 which", x.few(0, 0, 60, 1), 0);
        NoonShade y = Check.filled(0, 12, 59);
        due("20 it has 59: one", y.few(0, 0, 60, 0), 1);
        due("20 the wall that is not MILKED", y.few(0, 0, 60, 1), 32);
        due("20 none is needed for 59", y.few(0, 0, 59, 0), 0);
        NoonShade seven = Check.island(14, new int[][] {{0, 1, 0}, {0, 1, 0}, {0, 1, 0}, {0, 1, 0}, {0, 1, 0}, {0, 1, 0}, {0, 1, 0}}, 0);
        for (int n = 1; n <= 7; n++) {
            due("20 " + n + " of seven", seven.few(0, 0, n, 0), n);
            due("20 the least number", seven.few(0, 0, n, 1), (1 << n) - 1);
        }
        due("20 eight of seven", seven.few(0, 0, 8, 0), -1);
        due("20 none is not refused", Calls.refusals(seven), 0);
    }

    private static void fewOfLikeOnes() {
        NoonShade x = Check.island(14, new int[][] {{0, 1, 0}, {0, 9, 0}, {0, 3, 0}, {0, 9, 0}, {0, 5, 0}}, 0);
        // 1, 5, 2, 5, 3
        due("20 one for 5", x.few(0, 0, 5, 1), 2);
        due("20 two for 6: the least number", x.few(0, 0, 6, 1), 3);
        due("20 two for 7", x.few(0, 0, 7, 1), 6);
        due("20 two for 8", x.few(0, 0, 8, 1), 10);
        due("20 two for 10", x.few(0, 0, 10, 1), 10);
        due("20 three for 11", x.few(0, 0, 11, 1), 11);
        due("20 three for 12", x.few(0, 0, 12, 1), 14);
        due("20 three for 13", x.few(0, 0, 13, 1), 26);
        due("20 four for 14", x.few(0, 0, 14, 1), 27);
        due("20 all for 16", x.few(0, 0, 16, 1), 31);
        due("20 none for 17", x.few(0, 0, 17, 1), -1);
    }

    private static void fewOfATaste() {
        NoonShade x = Check.island(14, new int[][] {{0, 9, 0}, {0, 9, 1}, {0, 9, 2}, {0, 9, 3}, {0, 9, 3}, {0, 1, 0}}, 0, 0);
        due("20 of taste 0", x.few(0, 0, 5, 1), 1);
        due("20 of taste 1", x.few(0, 1, 5, 1), 2);
        due("20 of taste 2", x.few(0, 2, 5, 1), 4);
        due("20 of taste 3", x.few(0, 3, 5, 1), 8);
        due("20 of taste 3, both", x.few(0, 3, 6, 1), 24);
        due("20 of taste 2, one alone", x.few(0, 2, 6, 1), -1);
        x.ladle(3, 0);
        due("20 it is of that TASTE and has so much", x.few(0, 3, 5, 1), 0);
        due("20 it is of that TASTE: one more", x.few(0, 3, 6, 1), 16);
        due("20 10 at most", x.few(0, 3, 10, 1), 16);
        due("20 11 are not to be had", x.few(0, 3, 11, 1), -1);
        due("20 it is of another TASTE", x.few(0, 0, 1, 0), -1);
        due("20 the other JAR is empty", x.few(1, 0, 6, 1), 33);
        due("20 the MILKED one is not drawn from", x.few(1, 3, 5, 1), 16);
        NoonShade one = Check.island(14, new int[][] {{0, 1, 0}, {0, 9, 1}}, 0);
        one.ladle(0, 0);
        due("20 one of another TASTE bars it", one.few(0, 1, 5, 0), -1);
        one.hours(1);
        due("20 nothing is left of it", one.few(0, 1, 5, 1), 2);
        x.ladle(5, 0);
        due("20 it is mixed", x.few(0, 3, 1, 0), -1);
        due("20 it is mixed", x.few(0, 0, 1, 0), -1);
        x.hours(6);
        due("20 empty again", x.few(0, 0, 1, 1), 1);
        NoonShade none = Check.island(14, new int[][] {}, 0);
        due("20 no CASTERS", none.few(0, 0, 1, 0), -1);
        NoonShade noon = Check.island(10, new int[][] {{1, 9, 0}}, 0);
        int[] mayBeHad = {5, 14, 14, 14, 5};
        for (int most : mayBeHad) {
            due("20 in this HOUR " + most, noon.few(0, 0, most, 0), 1);
            due("20 no more than " + most, noon.few(0, 0, most + 1, 0), -1);
            noon.hours(1);
        }
    }

    private static void intoOfLikeOnes() {
        NoonShade x = Check.island(12, new int[][] {{5, 9, 0}}, 0, 0, 0, 0);
        x.ladle(0, 1);
        due("21 of like ones the least, not itself", x.into(1, 1, 0), 0);
        due("21 how much", x.into(1, 1, 1), 16);
        x.pours(1, 0);
        due("21 of like ones the least, not itself", x.into(0, 1, 0), 1);
        due("21 16 hours: one is left", x.into(0, 16, 1), 1);
        due("21 17 hours: nothing is left", x.into(0, 17, 1), 0);
        due("21 30 hours: nothing is left", x.into(0, 30, 1), 0);
        due("21 of those the least", x.into(0, 30, 0), 1);
        x.pours(0, 3);
        due("21 from the last one", x.into(3, 1, 0), 0);
        NoonShade y = Check.island(12, new int[][] {{5, 9, 0}}, 1, 0, 4, 2);
        y.ladle(0, 0);
        due("21 behind one: clay", y.into(0, 1, 0), 1);
        due("21 behind 12: clay, as stone", y.into(0, 12, 0), 1);
        due("21 behind 13: stone", y.into(0, 13, 0), 3);
        due("21 how much", y.into(0, 13, 1), 5);
        // stone has 5 at midnight, and loses them at 6 .. 10
        due("21 behind 22, at 10: stone has one", 10 * y.into(0, 22, 0) + y.into(0, 22, 1), 31);
        due("21 behind 23: none has", 10 * y.into(0, 23, 0) + y.into(0, 23, 1), 10);
    }

    private static void intoNone() {
        NoonShade one = Check.island(12, new int[][] {{5, 9, 0}}, 0);
        due("21 no other, and nothing", one.into(0, 1, 0), -1);
        one.ladle(0, 0);
        due("21 no other", one.into(0, 1, 0), -1);
        due("21 no other: how much", one.into(0, 30, 1), -1);
        one.jar(0);
        due("21 there is another", one.into(0, 1, 0), 1);
        due("21 that one has nothing", one.into(1, 1, 0), -1);
        due("21 that one has nothing: how much", one.into(1, 1, 1), -1);
        due("21 none is not refused", Calls.refusals(one), 0);
    }

    private static void intoUpToSixty() {
        // 59 of a clay jar and 5 of a cellar: 1 goes over, 4 are left
        NoonShade x = Check.filled(0, 12, 59);
        x.ladle(5, 1);
        due("21 five into 59", x.into(1, 1, 1), 59 + 3);
        due("21 59 into five: 55 go over, 4 and 60", x.into(0, 1, 1), 3 + 60);
        NoonShade full = Check.filled(0, 12, 60);
        full.ladle(6, 1);
        due("21 one into sixty: nothing goes over", full.into(1, 1, 1), 59);
        due("21 yet it is the one", full.into(1, 1, 0), 0);
        due("21 sixty into one", full.into(0, 1, 1), 60);
        due("21 sixty into one, 30 hours on", full.into(0, 30, 1), 60);
        due("21 one into sixty, 30 hours on", full.into(1, 30, 1), 30);
    }

    // ---- notes, marks

    private static void notesUpToSix() {
        NoonShade x = Check.island(0, new int[][] {{0, 1, 0}, {0, 1, 0}});
        for (int k = 1; k <= 6; k++) {
            due("22 note " + k, x.note(k % 2, k, k, k), k);
            due("22 so many", x.count(6), k);
        }
        due("22 FULL: 6", x.note(0, 1, 1, 1), -4);
        due("22 still six", x.count(6), 6);
        due("24 there were six", x.forget(0), 6);
        due("24 none", x.count(6), 0);
        due("24 there were none", x.forget(0), 0);
        due("22 the first again", x.note(1, 9, 23, 40), 1);
        due("22 no mark came", x.count(7), 0);
    }

    private static void marksUpToSix() {
        NoonShade x = Check.island(0, new int[][] {}, 0, 0);
        for (int k = 1; k <= 6; k++) {
            due("23 mark " + k, x.mark(k % 2, k, k, k), k);
            due("23 so many", x.count(7), k);
        }
        due("23 FULL: 6", x.mark(0, 1, 1, 1), -4);
        due("23 still six", x.count(7), 6);
        due("24 there were six", x.forget(1), 6);
        due("24 none", x.count(7), 0);
        due("24 there were none", x.forget(1), 0);
        due("23 the first again", x.mark(1, 60, 23, 60), 1);
        due("23 no note came", x.count(6), 0);
    }

    private static int isWith(int... note) {
        NoonShade x = Check.island(0, new int[][] {{0, 5, 0}});
        for (int k = 0; k < note.length; k += 3) {
            x.note(0, note[k], note[k + 1], note[k + 2]);
        }
        return x.is(0);
    }

    private static void isAtTheEdges() {
        due("25 no NOTES: all KINDS", isWith(), 63);
        due("25 h 1 at 10 gave 1: wall, tree", isWith(1, 10, 1), 3);
        due("25 h 1 at 11 gave 1: wall, fig", isWith(1, 11, 1), 5);
        due("25 h 1 at 11 gave 2: tree, cloud, man", isWith(1, 11, 2), 26);
        due("25 h 1 at 14 gave 0: fig", isWith(1, 14, 0), 4);
        due("25 h 1 at 12 gave 0: cloud", isWith(1, 12, 0), 8);
        due("25 h 1 at 0 gave 0: fig, cloud", isWith(1, 0, 0), 12);
        due("25 h 1 at 12 gave 1: wall, fig, man", isWith(1, 12, 1), 21);
        due("25 h 9 at 12 gave 17: pergola", isWith(9, 12, 17), 32);
        due("25 h 9 at 12 gave 18: none", isWith(9, 12, 18), 0);
        due("25 h 9 at 23 gave 14: man", isWith(9, 23, 14), 16);
        due("25 h 9 at 23 gave 40: none", isWith(9, 23, 40), 0);
        due("25 by all NOTES", isWith(1, 10, 1, 1, 11, 1), 1);
        due("25 the first of six counts", isWith(9, 12, 18, 1, 10, 1, 1, 10, 1, 1, 10, 1, 1, 10, 1, 1, 10, 1), 0);
        due("25 the last of six counts", isWith(1, 10, 1, 1, 10, 1, 1, 10, 1, 1, 10, 1, 1, 10, 1, 1, 11, 2), 2);
        NoonShade x = Check.island(0, new int[][] {{0, 5, 0}, {0, 5, 0}, {0, 1, 0}, {0, 1, 0}, {0, 1, 0}, {0, 1, 0}, {0, 9, 0}});
        x.note(6, 1, 10, 1);
        x.note(0, 1, 14, 0);
        due("25 of the last CASTER its own", x.is(6), 3);
        due("25 of the first CASTER its own", x.is(0), 4);
        due("25 of one without NOTES", x.is(1), 63);
    }

    private static void lookAtTheEdges() {
        // for a fig and a cloud of height 1: fig 0 (1 at 11 .. 13), cloud 0 at each third hour, else 2
        NoonShade x = Check.island(0, new int[][] {{0, 1, 0}, {0, 9, 0}});
        x.note(0, 1, 0, 0);
        due("25 fig or cloud", x.is(0), 12);
        due("26 they differ at 1 first", x.look(0), 1);
        x.note(1, 1, 10, 1);
        due("25 wall or tree", x.is(1), 3);
        due("26 they differ at 11 first", x.look(1), 11);
        x.note(1, 1, 11, 2);
        due("26 one KIND: the least hour", x.look(1), 0);
        x.note(1, 1, 11, 3);
        due("26 none: no KIND", x.look(1), -1);
        due("26 that is not refused", Calls.refusals(x), 0);
        // man or pergola: 1 and t from 12 against 4; by a note of height 1 at 9
        for (int h : new int[] {1, 9}) {
            NoonShade y = Check.island(0, new int[][] {{0, h, 0}});
            y.note(0, 1, 9, 4);
            due("25 man or pergola", y.is(0), 48);
            due("26 they differ at 0", y.look(0), 0);
        }
        // wall or man: both are alike at 12 alone; wall, fig, man of height 1 by 1 at 12
        NoonShade z = Check.island(0, new int[][] {{0, 1, 0}, {0, 3, 0}});
        z.note(0, 1, 12, 1);
        z.note(1, 1, 12, 1);
        due("25 wall, fig, man", z.is(0), 21);
        due("26 of height 1, at 0: 1, 0, 10", z.look(0), 0);
        due("26 of height 3, at 0: 2, 1, 11", z.look(1), 0);
        // all six: of 1 two are alike at 0 (1 1 0 0 10 4), of 9 there are none until 11 (5 14 7 10 6 17)
        NoonShade all = Check.island(0, new int[][] {{0, 1, 0}, {0, 9, 0}});
        due("26 HEIGHT as it is: 1", all.look(0), 0);
        due("26 HEIGHT as it is: 9", all.look(1), 11);
    }

    private static int kindsWith(int... mark) {
        NoonShade x = Check.island(0, new int[][] {}, 0);
        for (int k = 0; k < mark.length; k += 3) {
            x.mark(0, mark[k], mark[k + 1], mark[k + 2]);
        }
        return x.kinds(0);
    }

    private static void kindsAtTheEdges() {
        due("27 no MARKS: all KINDS", kindsWith(), 63);
        due("27 0 at 5 lost 0: stone, wicker, cellar", kindsWith(0, 5, 0), 52);
        due("27 0 at 6 lost 0: wicker", kindsWith(0, 6, 0), 16);
        due("27 0 at 6 lost 1, as the KIND says: clay, stone, cellar", kindsWith(0, 6, 1), 37);
        due("27 0 at 6 lost 3, as the KIND says: glass, cracked", kindsWith(0, 6, 3), 10);
        due("27 1 at 5 lost 1: clay, wicker", kindsWith(1, 5, 1), 17);
        due("27 9 at 6 lost 3: glass, cracked", kindsWith(9, 6, 3), 10);
        due("27 10 at 6 lost 3: glass", kindsWith(10, 6, 3), 2);
        due("27 10 at 6 lost 4: cracked", kindsWith(10, 6, 4), 8);
        due("27 19 at 6 lost 1: clay, stone, cellar", kindsWith(19, 6, 1), 37);
        due("27 20 at 6 lost 1: clay, stone", kindsWith(20, 6, 1), 5);
        due("27 20 at 6 lost 0: cellar", kindsWith(20, 6, 0), 32);
        due("27 60 at 23 lost 30: wicker", kindsWith(60, 23, 30), 16);
        due("27 59 at 23 lost 30: wicker", kindsWith(59, 23, 30), 16);
        due("27 59 at 23 lost 29: none", kindsWith(59, 23, 29), 0);
        due("27 60 at 23 lost 9: cracked", kindsWith(60, 23, 9), 8);
        due("27 60 at 23 lost 60: none", kindsWith(60, 23, 60), 0);
        due("27 by all MARKS", kindsWith(0, 6, 1, 20, 6, 1, 20, 5, 0), 4);
        due("27 the last of six counts", kindsWith(0, 6, 1, 0, 6, 1, 0, 6, 1, 0, 6, 1, 0, 6, 1, 20, 6, 0), 32);
        NoonShade x = Check.island(0, new int[][] {}, 0, 0, 0, 0);
        x.mark(3, 0, 6, 0);
        x.mark(0, 20, 6, 0);
        due("27 of the last JAR its own", x.kinds(3), 16);
        due("27 of the first JAR its own", x.kinds(0), 32);
        due("27 of one without MARKS", x.kinds(1), 63);
    }

    private static int askWith(int... mark) {
        NoonShade x = Check.island(0, new int[][] {}, 0);
        for (int k = 0; k < mark.length; k += 3) {
            x.mark(0, mark[k], mark[k + 1], mark[k + 2]);
        }
        int answer = x.ask(0);
        due("28 none is refused", Calls.refusals(x), 0);
        return answer;
    }

    private static void askAtTheEdges() {
        due("28 all KINDS", askWith(), 100);
        due("28 clay or stone: below 6 they differ", askWith(20, 6, 1), 0);
        due("28 glass or cracked: from 10 they differ", askWith(9, 6, 3), 1000);
        due("28 stone, wicker, cellar: from 20 and 6 all differ", askWith(0, 5, 0), 2006);
        due("28 stone or cellar: from 20 and 6 they differ", askWith(0, 5, 0, 1, 5, 0), 2006);
        due("28 one KIND: the least", askWith(60, 23, 9), 0);
        due("28 none: no KIND", askWith(60, 23, 60), -1);
        due("28 clay or wicker: at 0 they differ", askWith(1, 5, 1), 0);
    }

    // ---- two who milk

    private static void twoTheSame() {
        // one alone rests, whatever it gives: half (cut) of it, less 1
        for (int[] c : new int[][] {{3, 9, 0}, {0, 1, 0}, {0, 3, 0}, {5, 9, 0}}) {
            NoonShade one = Check.island(12, new int[][] {c});
            due("29 one alone", one.two(-1), 1);
            due("29 the same", one.two(0), 0);
            due("29 no second", one.two(1), -5);
        }
        // a tree of 9 gives 14: the same has 6 each; a wall of 9 gives 5: it rests at the same
        NoonShade same = Check.island(12, new int[][] {{1, 9, 0}, {0, 9, 0}});
        due("29 6 is more than 5", same.two(-1), 1);
        due("29 the same rests", same.two(0), 0);
        // a tree of 8 gives 12: 5 each, as a wall of 9: like ones rest, (0, 1) and (1, 0), too
        NoonShade like = Check.island(12, new int[][] {{1, 8, 0}, {0, 9, 0}});
        due("29 5 is as much as 5", like.two(-1), 3);
        due("29 the same", like.two(0), 0);
        due("29 one and the other", like.two(1), 1);
        due("29 the other and one", like.two(2), 10);
        due("29 no fourth", like.two(3), -5);
        // a tree of 7 gives 11: half, cut, is 5, less 1: 4 each; the same rests no more
        NoonShade cut = Check.island(12, new int[][] {{1, 7, 0}, {0, 9, 0}});
        due("29 4 is less than 5", cut.two(-1), 2);
        due("29 one and the other", cut.two(0), 1);
        due("29 the other and one", cut.two(1), 10);
        // 0 gives -1 to each: a cloud at 12 and a wall of 1, which gives -1 to each, too
        NoonShade less = Check.island(12, new int[][] {{3, 9, 0}, {0, 1, 0}});
        due("29 0 is more than -1", less.two(-1), 2);
        due("29 one and the other", less.two(0), 1);
    }

    private static void twoOfLikeOnes() {
        NoonShade seven = Check.island(14, new int[][] {{0, 9, 0}, {0, 9, 0}, {0, 9, 0}, {0, 9, 0}, {0, 9, 0}, {0, 9, 0}, {0, 9, 0}}, 0);
        due("29 all but the same", seven.two(-1), 42);
        int k = 0;
        for (int i = 0; i < 7; i++) {
            for (int j = 0; j < 7; j++) {
                if (i != j) {
                    due("29 rising: " + k, seven.two(k), 10 * i + j);
                    k++;
                }
            }
        }
        due("29 one behind the last", seven.two(42), -5);
        seven.ladle(0, 0);
        due("29 without the MILKED one", seven.two(-1), 30);
        due("29 the first", seven.two(0), 12);
        for (int i = 1; i < 6; i++) {
            seven.ladle(i, 0);
        }
        due("29 one left", seven.two(-1), 1);
        due("29 the same", seven.two(0), 66);
        seven.ladle(6, 0);
        due("29 all are MILKED", seven.two(-1), 0);
        due("29 not so many", seven.two(0), -5);
        due("29 no CASTERS", new NoonShade().two(-1), 0);
        due("29 no CASTERS: not so many", new NoonShade().two(0), -5);
    }

    private static void twoTastes() {
        // a pergola of 9 gives 17: the same 7 each; a wall of 9 gives 5, of another TASTE 7: like ones
        NoonShade like = Check.island(12, new int[][] {{5, 9, 0}, {0, 9, 1}});
        due("29 5 and 2 are as much as 7", like.two(-1), 3);
        NoonShade less = Check.island(12, new int[][] {{5, 9, 0}, {0, 7, 1}});
        due("29 4 and 2 are less than 7", less.two(-1), 1);
        due("29 the same", less.two(0), 0);
        NoonShade alike = Check.island(12, new int[][] {{5, 9, 1}, {0, 9, 1}});
        due("29 5 of the same TASTE are less than 7", alike.two(-1), 1);
        // who is named by the other one counts: 0 and 1 of one TASTE give 5, 2 of another gives 3 and 2
        NoonShade three = Check.island(14, new int[][] {{0, 9, 0}, {0, 9, 0}, {0, 5, 1}});
        due("29 (0, 1), (1, 0), (0, 2), (1, 2), (2, 0), (2, 1)", three.two(-1), 4 + 2);
    }

    // ---- spilt

    private static void spilt(NoonShade x, int j, int n, int cool, int c, long above, long below) {
        String call = Calls.told("spilt", j, n, cool, c);
        due("30 " + call, x.spilt(j, n, cool, c), 1);
        due("30 " + call + ": above", x.part(0), above);
        due("30 " + call + ": below", x.part(1), below);
    }

    private static void spiltNoneAndAll() {
        NoonShade x = Check.filled(0, 12, 10);
        spilt(x, 0, 0, 10, 0, 1, 1);
        spilt(x, 0, 0, 10, 10, 1, 1);
        spilt(x, 0, 0, 11, 0, 0, 1);
        spilt(x, 0, 0, 0, 5, 1, 1);
        spilt(x, 0, 0, 60, 5, 0, 1);
        // 10 and 5 less 1 are 14; spilt, 9 are left
        spilt(x, 0, 1, 9, 10, 1, 1);
        spilt(x, 0, 1, 10, 10, 0, 1);
        spilt(x, 0, 1, 10, 9, 1, 10);
        spilt(x, 0, 1, 14, 9, 1, 10);
        spilt(x, 0, 1, 15, 9, 0, 1);
        spilt(x, 0, 1, 14, 1, 9, 10);
        spilt(x, 0, 1, 14, 0, 1, 1);
        spilt(x, 0, 1, 15, 0, 0, 1);
        spilt(x, 0, 1, 9, 1, 1, 1);
        // four ladles: 10 and 20 less 4
        spilt(x, 0, 4, 26, 1, 6561, 10000);
        spilt(x, 0, 4, 26, 9, 1, 10000);
        spilt(x, 0, 4, 27, 0, 0, 1);
        spilt(x, 0, 4, 6, 10, 1, 1);
        spilt(x, 0, 4, 7, 9, 3439, 10000);
        spilt(x, 0, 4, 7, 10, 0, 1);
        // no CASTERS: no LADLE is spilt
        NoonShade none = Check.island(12, new int[][] {}, 0);
        spilt(none, 0, 4, 0, 3, 1, 1);
        spilt(none, 0, 4, 1, 3, 0, 1);
        // all are MILKED: none, then one
        NoonShade milked = Check.island(14, new int[][] {{0, 9, 0}}, 5, 2);
        milked.ladle(0, 1);
        spilt(milked, 0, 1, 0, 7, 1, 1);
        spilt(milked, 0, 1, 1, 7, 0, 1);
        spilt(milked, 0, 2, 4, 7, 3, 10);
        spilt(milked, 1, 2, 8, 7, 3, 10);
        spilt(milked, 1, 2, 3, 7, 1, 1);
    }

    private static void spiltUpToSixty() {
        NoonShade cellar = Check.filled(5, 12, 55);
        spilt(cellar, 0, 1, 60, 3, 7, 10);
        spilt(cellar, 0, 1, 55, 3, 1, 1);
        // two of 5 to 55: either is enough
        spilt(cellar, 0, 2, 60, 3, 91, 100);
        NoonShade full = Check.filled(5, 12, 60);
        spilt(full, 0, 4, 60, 10, 1, 1);
        // stone has 5 and keeps them at 4 and 5, loses 1 at 6 and at 7; a wall gives 5
        NoonShade stone = Check.filled(2, 4, 5);
        spilt(stone, 0, 2, 5, 10, 1, 1);
        spilt(stone, 0, 2, 15, 5, 1, 4);
        spilt(stone, 0, 3, 19, 5, 1, 8);
        spilt(stone, 0, 3, 20, 5, 0, 1);
        spilt(stone, 0, 4, 3, 10, 1, 1);
        spilt(stone, 0, 4, 4, 10, 0, 1);
        NoonShade clay = Check.filled(0, 12, 60);
        spilt(clay, 0, 1, 60, 0, 0, 1);
        spilt(clay, 0, 1, 59, 10, 1, 1);
    }

    private static void spiltInLowestTerms() {
        NoonShade x = Check.island(14, new int[][] {{0, 9, 0}}, 0);
        // one ladle: 4 by 10 - c of 10
        int[][] terms = {{1, 1}, {9, 10}, {4, 5}, {7, 10}, {3, 5}, {1, 2}, {2, 5}, {3, 10}, {1, 5}, {1, 10}, {0, 1}};
        for (int c = 0; c <= 10; c++) {
            spilt(x, 0, 1, 4, c, terms[c][0], terms[c][1]);
        }
        // both of two: 8
        int[][] squares = {{1, 1}, {81, 100}, {16, 25}, {49, 100}, {9, 25}, {1, 4}, {4, 25}, {9, 100}, {1, 25}, {1, 100}, {0, 1}};
        for (int c = 0; c <= 10; c++) {
            spilt(x, 0, 2, 8, c, squares[c][0], squares[c][1]);
        }
        spilt(x, 0, 4, 16, 5, 1, 16);
        spilt(x, 0, 4, 16, 8, 1, 625);
        spilt(x, 0, 3, 12, 5, 1, 8);
        spilt(x, 0, 3, 13, 5, 0, 1);
    }

    // ---- noons

    private static void noonsAtTheEdges() {
        NoonShade x = Check.filled(0, 12, 60);
        x.ladle(6, 1);
        due("31 n 0: COOL of all JARS", x.noons(0, 0), 61);
        due("31 n 0, the last seed", x.noons(999999, 0), 61);
        // X is 12345 behind the first: 12345 by 16384 is 0, an even number: an HOUR; caster 0 (MILKED), jar 0
        due("31 seed 0, once: an HOUR", x.noons(0, 1), 59);
        NoonShade y = Check.island(14, new int[][] {{0, 9, 0}, {0, 9, 0}, {0, 9, 0}, {0, 9, 0}, {0, 9, 0}, {0, 9, 0}, {0, 9, 0}}, 0, 0, 0, 0);
        for (int seed : new int[] {0, 1, 2, 3, 500000, 999998, 999999}) {
            for (int n : new int[] {1, 2, 59, 60}) {
                due("31 " + Calls.told("noons", seed, n), y.noons(seed, n), noonsOfWalls(seed, n));
            }
        }
        noonsAtTheDivisors();
        due("31 no CASTERS, no JARS", new NoonShade().noons(999999, 60), 0);
        NoonShade noJars = Check.island(14, new int[][] {{0, 9, 0}});
        due("31 no JARS", noJars.noons(3, 60), 0);
        NoonShade noCasters = Check.island(14, new int[][] {}, 0, 0, 0, 0);
        due("31 no CASTERS", noCasters.noons(3, 60), 0);
    }

    /** Seeds by whose X a divisor can be told from the ones beside it: CASTER 0 and JAR 0 are named, and just so. */
    private static void noonsAtTheDivisors() {
        NoonShade x = Check.island(14, new int[][] {{0, 9, 0}}, 0);
        // X 738651866, 1606566545, 2052062012, 202375167 by 16384 are odd: no HOUR; 851444279 is even: an HOUR
        due("31 by 65536, not by 65535", x.noons(133, 1), 5);
        due("31 by 65536, not by 65537", x.noons(1208, 1), 5);
        due("31 by 1048576, not by 1048575", x.noons(121135, 1), 5);
        due("31 one below the next 1048576", x.noons(899870, 1), 5);
        due("31 by 1048576, not by 1048577", x.noons(822, 1), 4);
        // X 1682964480 is 1605 times 1048576: CASTER 4, JAR 1, an HOUR
        NoonShade y = Check.island(14, new int[][] {{0, 1, 0}, {0, 1, 0}, {0, 1, 0}, {0, 1, 0}, {0, 9, 0}}, 4, 0, 4, 4);
        due("31 just 1605 times 1048576", y.noons(501379, 1), 4);
    }

    /** Seven walls of 5 and four jars of clay, by figures alone. */
    private static int noonsOfWalls(long seed, int n) {
        long x = seed;
        int[] cool = new int[4];
        boolean[] milked = new boolean[7];
        for (int k = 0; k < n; k++) {
            x = Math.floorMod(x * 1103515245L + 12345L, 1L << 31);
            int i = (int) ((x >> 16) % 7);
            int j = (int) ((x >> 20) % 4);
            if (!milked[i]) {
                milked[i] = true;
                cool[j] = Math.min(60, cool[j] + 5);
            }
            if ((x >> 14 & 1) == 0) {
                milked = new boolean[7];
                for (int jar = 0; jar < 4; jar++) {
                    cool[jar] = Math.max(0, cool[jar] - 1);
                }
            }
        }
        return cool[0] + cool[1] + cool[2] + cool[3];
    }
}
