/** Promises 1 to 7: a new object, island, caster, jar, type, clear, read. */
public final class IslandTest {
    private static final Check CHECK = new Check();

    public static void main(String[] args) {
        newObject();
        island();
        caster();
        jar();
        type();
        clear();
        readItems();
        readFaults();
        readOverAnOlderText();
        readAFullText();
        readTakesThePlace();
        CHECK.finish("IslandTest");
    }

    private static void due(String call, long got, long want) {
        CHECK.due(call, got, want);
    }

    private static void newObject() {
        NoonShade x = new NoonShade();
        for (int what = 0; what <= 9; what++) {
            due("1 count(" + what + ")", x.count(what), 0);
        }
        due("1 above", x.part(0), 0);
        due("1 below", x.part(1), 1);
        for (int what = 0; what <= 2; what++) {
            due("1 status(" + what + ")", x.status(what), 0);
        }
        due("1 no image 0", x.from(0), -3);
        due("1 no image 1", x.from(1), -3);
        due("1 nothing to undo", x.undo(), -3);
        due("1 an empty text", x.read(), -10);
        due("1 no pair", x.two(-1), 0);
    }

    private static void island() {
        NoonShade x = Check.island(99, new int[][] {{1, 9, 2}, {0, 3, 1}}, 0, 2);
        due("2 hour", x.count(3), 99);
        x.ladle(0, 0);
        x.sells(0);
        x.note(0, 1, 2, 3);
        x.mark(0, 1, 2, 3);
        x.type('a');
        x.spilt(0, 0, 0, 0);
        x.image(1);
        due("2 too late", x.island(100), -2);
        due("2 too early", x.island(-1), -2);
        due("2 refused, nothing changed", x.count(0), 2);
        due("2 island", x.island(7), 2);
        int[] left = {0, 0, 0, 7, 0, 0, 0, 0, 0, 1};
        for (int what = 0; what <= 9; what++) {
            due("2 count(" + what + ")", x.count(what), left[what]);
        }
        due("2 the fraction stays", x.part(0), 1);
        due("2 status stays", x.status(0), 2);
        due("2 the image stays", x.from(1), 1);
        due("2 from the image", x.count(0), 2);
        due("2 island again", x.island(0), 2);
        due("2 island of none", x.island(5), 0);
        x.caster(3, 4, 1);
        due("2 not milked", x.of(0, 3), 0);
    }

    private static void caster() {
        NoonShade x = new NoonShade();
        int[][] bad = {{-1, 1, 0}, {6, 1, 0}, {0, 0, 0}, {0, 10, 0}, {0, 1, -1}, {0, 1, 4},
            {Integer.MIN_VALUE, 1, 0}, {0, Integer.MAX_VALUE, 0}, {0, 1, Integer.MAX_VALUE}};
        for (int[] b : bad) {
            due("3 bad caster", x.caster(b[0], b[1], b[2]), -2);
        }
        due("3 none came", x.count(0), 0);
        for (int i = 0; i < 7; i++) {
            due("3 caster " + i, x.caster(i % 6, i + 1, i % 4), i);
        }
        due("3 an eighth", x.caster(0, 1, 0), -4);
        due("3 an eighth, and bad", x.caster(6, 1, 0), -2);
        for (int i = 0; i < 7; i++) {
            due("3 kind of " + i, x.of(i, 0), i % 6);
            due("3 height of " + i, x.of(i, 1), i + 1);
            due("3 taste of " + i, x.of(i, 2), i % 4);
            due("3 milked " + i, x.of(i, 3), 0);
        }
        due("3 bads", x.status(0), bad.length + 1);
        due("3 fulls", x.status(2), 1);
        NoonShade y = new NoonShade();
        y.hours(1);
        due("3 one may be undone", y.count(8), 1);
        y.caster(9, 9, 9);
        due("3 refused: it still may", y.count(8), 1);
        y.caster(1, 1, 1);
        due("3 behind a caster none may", y.count(8), 0);
        due("3 the hour stays", y.count(3), 1);
    }

    private static void jar() {
        NoonShade x = new NoonShade();
        due("4 bad jar", x.jar(-1), -2);
        due("4 bad jar", x.jar(6), -2);
        for (int j = 0; j < 4; j++) {
            due("4 jar " + j, x.jar(5 - j), j);
        }
        due("4 a fifth", x.jar(0), -4);
        due("4 a fifth, and bad", x.jar(6), -2);
        due("4 bads", x.status(0), 3);
        due("4 fulls", x.status(2), 1);
        for (int j = 0; j < 4; j++) {
            due("4 kind of " + j, x.about(j, 0), 5 - j);
            due("4 cool of " + j, x.about(j, 1), 0);
            due("4 taste of " + j, x.about(j, 2), -1);
        }
        NoonShade y = new NoonShade();
        y.hours(2);
        y.jar(7);
        due("4 refused: one may be undone", y.count(8), 1);
        y.jar(0);
        due("4 behind a jar none may", y.undo(), -3);
        NoonShade z = Check.island(12, new int[][] {{1, 9, 2}}, 0);
        z.ladle(0, 0);
        z.island(1);
        z.jar(1);
        due("4 a jar in an old one's place is empty", z.about(0, 1), 0);
        due("4 and has no taste", z.about(0, 2), -1);
    }

    private static void type() {
        NoonShade x = new NoonShade();
        due("5 too low", x.type(-1), -2);
        due("5 too high", x.type(128), -2);
        for (int k = 1; k <= 150; k++) {
            due("5 byte " + k, x.type(k % 128), k);
        }
        due("5 full", x.type(65), -4);
        due("5 full, and bad", x.type(128), -2);
        due("5 bytes", x.count(9), 150);
        due("5 bads", x.status(0), 3);
        due("5 fulls", x.status(2), 1);
    }

    private static void clear() {
        NoonShade x = new NoonShade();
        due("6 empty", x.clear(), 0);
        Check.type(x, "island 3;");
        due("6 had", x.clear(), 9);
        due("6 has", x.count(9), 0);
        due("6 reads as empty", x.read(), -10);
        due("6 again", x.clear(), 0);
    }

    private static void readItems() {
        NoonShade x = new NoonShade();
        due("7 island alone", Check.read(x, "island 99;"), 1);
        due("7 its hour", x.count(3), 99);
        due("7 no blanks", Check.read(x, "island5;jar0;"), 2);
        due("7 its hour", x.count(3), 5);
        due("7 many blanks", Check.read(x, "   island  07 ;  jar 05 ;   "), 2);
        due("7 two figures are one number", x.count(3), 7);
        due("7 the jar", x.about(0, 0), 5);
        due("7 all", Check.read(x, "island 11;caster 1 9 2;caster 5 8 3;jar 2;jar 4;ladle 0 0;ladle 1 1;pour 0 1;hours 1;ladle 0 0;"), 10);
        due("7 hour", x.count(3), 12);
        due("7 first jar", x.about(0, 1), 14);
        due("7 its taste", x.about(0, 2), 2);
        // 12 and 3 and 14 are 29: wicker loses 15 of it
        due("7 second jar", x.about(1, 1), 14);
        due("7 its taste", x.about(1, 2), 4);
        due("7 milked", x.count(4), 1);
        due("7 the text stays", x.count(9) > 0 ? 1 : 0, 1);
        due("7 reads again", x.read(), 10);
        Check.read(x, "island 12;caster 0 9 1;caster 0 3 2;jar 0;jar 0;ladle 1 0;ladle 0 1;");
        due("7 the second caster, the first jar", x.about(0, 1), 2);
        due("7 the first caster, the second jar", x.about(1, 1), 5);
        due("7 hours 99", Check.read(x, "island 0;hours 99;hours 1;"), 3);
        due("7 hour", x.count(3), 100);
        due("7 seven casters", Check.read(x, "island 0;caster 0 1 0;caster 1 9 3;caster 2 1 0;caster 3 1 0;caster 4 1 0;caster 5 1 0;caster 0 1 0;"), 8);
        due("7 four jars", Check.read(x, "island 0;jar 0;jar 1;jar 2;jar 3;"), 5);
        due("7 none of it counts as refused", x.status(0) + x.status(1) + x.status(2), 0);
    }

    private static void fault(String text, int place) {
        NoonShade x = Check.island(3, new int[][] {{1, 5, 1}}, 2);
        x.ladle(0, 0);
        Check.type(x, text);
        long before = x.digest();
        due("7 \"" + text + "\"", x.read(), -10 - place);
        due("7 all stays behind \"" + text + "\"", x.digest(), before);
        due("7 a fault is no refusal", x.status(0) + x.status(1) + x.status(2), 0);
    }

    private static void readFaults() {
        fault("", 0);
        fault("   ", 3);
        fault("island", 6);
        fault("island ", 7);
        fault("island 3", 8);
        fault("island 3  ", 10);
        fault("island 3;jar", 12);
        fault("island 3;jar 1 ", 15);
        fault("islan 3;", 0);
        fault("islands 3;", 0);
        fault("islandz 3;", 0);
        fault("xsland 3;", 0);
        fault("islanx 3;", 0);
        fault("islandA 3;", 6);
        fault(" Island 3;", 1);
        fault("iSland 3;", 0);
        fault("jar 0;", 0);
        fault("; island 3;", 0);
        fault("7 island 3;", 0);
        fault("island 3;island 4;", 9);
        fault("island 3;;", 9);
        fault("island 3 4;", 9);
        fault("island jar;", 7);
        fault("island ;", 7);
        fault("island 100;", 7);
        fault("island 3;hours 100", 15);
        fault("island 3;hours 0;", 15);
        fault("island 3;hours 00;", 15);
        fault("island 3;hours 1,", 16);
        fault("island 3\t;", 8);
        fault("island 3;cast 1 1 1;", 9);
        fault("island 3;caster 6 1 1;", 16);
        fault("island 3;caster 0 0 1;", 18);
        fault("island 3;caster 0 10 1;", 18);
        fault("island 3;caster 0 1 4;", 20);
        fault("island 3;caster 0 1;", 19);
        fault("island 3;caster 0 1 1 1;", 22);
        fault("island 3;jar 6;", 13);
        fault("island 3;jar 12;", 13);
        fault("island 3;jar 0;ladle 0 0;", 21);
        fault("island 3;caster 0 1 1;ladle 0 0;", 30);
        fault("island 3;caster 0 1 1;jar 0;ladle 0 0;ladle 0 0;", 44);
        fault("island 3;caster 0 1 1;jar 0;ladle 0 1;", 36);
        fault("island 3;jar 0;jar 1;pour 0 1;", 26);
        fault("island 3;jar 0;jar 1;pour 2 1;", 26);
        fault("island 0;caster 3 9 1;jar 0;jar 1;ladle 0 0;pour 0 1;", 49);
        fault("island 3;caster 0 1 1;jar 0;jar 1;ladle 0 0;pour 0 0;", 51);
        fault("island 3;caster 0 1 1;jar 0;jar 1;ladle 0 0;pour 0 2;", 51);
        fault("island 3;caster 0 1 1;jar 0;jar 1;ladle 0 0;pour 0;", 50);
        fault("island 3;jar 0;jar 1;jar 2;jar 3;jar", 33);
        fault("island 3;sells 0;", 9);
        fault("island 0;caster 0 1 0;caster 0 1 0;caster 0 1 0;caster 0 1 0;caster 0 1 0;caster 0 1 0;caster 0 1 0;caster 9", 100);
        fault("island 3;caster 1a 1 1;", 17);
    }

    /** What an older, longer text had behind the new one's end is no part of it. */
    private static void readOverAnOlderText() {
        NoonShade x = new NoonShade();
        Check.type(x, "island 3;jar 4;");
        due("7 a figure was behind it", Check.read(x, "island 3;jar"), -22);
        due("7 a blank was behind it", Check.read(x, "island"), -16);
        Check.type(x, "islands 3;");
        due("7 a letter was behind it", Check.read(x, "island"), -16);
        Check.type(x, "island 333;");
        due("7 figures were behind it", Check.read(x, "island 3"), -18);
        Check.type(x, "island 3  ;jar 1;");
        due("7 an item was behind it", Check.read(x, "island 3 "), -19);
        due("7 an item was behind it", Check.read(x, "island 3;"), 1);
    }

    private static void readAFullText() {
        String blanks = " ".repeat(150);
        for (String end : new String[] {"jar", "jar 1", "jar 1 ", "island", "12", "x", ";", "jar 1;", " "}) {
            String text = "island 3;" + blanks.substring(9 + end.length()) + end;
            NoonShade x = new NoonShade();
            int answer = Check.read(x, text);
            boolean inItem = end.startsWith("jar") && !end.endsWith(";");
            int items = end.equals("jar 1;") ? 2 : 1;
            boolean whole = end.equals("jar 1;") || end.equals(" ");
            due("7 150 bytes, at their end \"" + end + "\"", answer, inItem ? -160 : whole ? items : -160 + end.length());
            due("7 they are 150", x.count(9), 150);
        }
    }

    private static void readTakesThePlace() {
        NoonShade x = Check.island(12, new int[][] {{1, 9, 2}, {0, 3, 1}}, 0, 2);
        x.ladle(0, 0);
        x.sells(0);
        x.note(0, 1, 2, 3);
        x.mark(0, 1, 2, 3);
        x.image(0);
        x.spilt(0, 0, 0, 0);
        x.jar(9);
        due("7 read", Check.read(x, "island 4;jar 3;"), 2);
        int[] left = {0, 1, 0, 4, 0, 0, 0, 0, 0, 15};
        for (int what = 0; what <= 9; what++) {
            due("7 count(" + what + ")", x.count(what), left[what]);
        }
        due("7 the fraction stays", x.part(0), 1);
        due("7 status stays", x.status(0), 1);
        due("7 the image stays", x.from(0), 1);
        due("7 from the image", x.count(5), 28);
        NoonShade y = new NoonShade();
        Check.read(y, "island 11;caster 0 1 0;jar 0;ladle 0 0;hours 2;");
        due("7 nothing to undo", y.undo(), -3);
    }
}
