/** The text at its edges: each number, each byte, each fault at its place, each place at which it can end too early. */
public final class TextEdgesTest {
    private static final Check CHECK = new Check();

    public static void main(String[] args) {
        bytesUpTo150();
        islandNumbers();
        casterNumbers();
        jarNumbers();
        hoursNumbers();
        ladleNumbers();
        pourNumbers();
        figures();
        everyByteForAWord();
        everyByteForANumber();
        everyByteBehindAWord();
        everyByteBehindANumber();
        everyByteBehindAnItem();
        wordsThatAreNone();
        islandOnceFirst();
        seventhAndEighthCaster();
        fourthAndFifthJar();
        everyWordEverywhere();
        endsTooEarly();
        blanksBetween();
        milkedInAText();
        pourInAText();
        fullJarsInAText();
        firstFaultCounts();
        whatIsReadTakesThePlace();
        faultsChangeNothing();
        CHECK.finish("TextEdgesTest");
    }

    private static void due(String call, long got, long want) {
        CHECK.due(call, got, want);
    }

    private static NoonShade reads(String text, int items) {
        NoonShade x = new NoonShade();
        due("7 \"" + text + "\"", Check.read(x, text), items);
        due("7 that is no refusal", Calls.refusals(x), 0);
        return x;
    }

    private static void fault(String text, int place) {
        reads(text, -10 - place);
    }

    /** The fault is at the token that the bar stands ahead of. */
    private static void faultAtBar(String text) {
        int place = text.indexOf('|');
        fault(text.substring(0, place) + text.substring(place + 1), place);
    }

    // ---- bytes

    private static void bytesUpTo150() {
        NoonShade x = new NoonShade();
        due("5 the least byte", x.type(0), 1);
        due("5 the greatest byte", x.type(127), 2);
        for (int k = 3; k <= 149; k++) {
            x.type(' ');
        }
        due("5 149 bytes", x.count(9), 149);
        due("5 the 150th", x.type(' '), 150);
        due("5 FULL", x.type(' '), -4);
        due("5 150 bytes", x.count(9), 150);
        due("6 it had 150", x.clear(), 150);
        due("6 it has none", x.count(9), 0);
        due("5 the first again", x.type('i'), 1);
        due("6 it had one", x.clear(), 1);
        due("6 it had none", x.clear(), 0);
        due("6 nothing of it is refused", x.status(0) + x.status(1), 0);
        String blanks = " ".repeat(150);
        reads(blanks, -10 - 150);
        reads(blanks.substring(0, 141) + "island 7;", 1);
        reads("island 7;" + blanks.substring(0, 141), 1);
        fault(blanks.substring(0, 142) + "island 7", 150);
        fault(blanks.substring(0, 149) + "x", 149);
        // 150 bytes full of items: 10 and 140
        StringBuilder s = new StringBuilder("island 99;");
        for (int k = 0; k < 14; k++) {
            s.append(k % 2 == 0 ? "hours 99 ;" : "hours  99;");
        }
        NoonShade y = reads(s.toString(), 15);
        due("7 150 bytes", y.count(9), 150);
        due("7 the greatest hour", y.count(3), 99 + 14 * 99);
        due("7 nothing to undo", y.count(8), 0);
    }

    // ---- numbers

    private static void islandNumbers() {
        for (int t = 0; t <= 99; t++) {
            NoonShade x = reads("island " + t + ";", 1);
            due("7 its HOUR", x.count(3), t);
        }
        for (String t : new String[] {"00", "01", "09"}) {
            due("7 two figures are one number", reads("island " + t + ";", 1).count(3), t.charAt(1) - '0');
        }
        faultAtBar("island |100;");
        faultAtBar("island |000;");
        faultAtBar("island |-1;");
    }

    private static void casterNumbers() {
        for (int v = 0; v <= 99; v++) {
            if (v <= 5) {
                due("7 its KIND", reads("island 3;caster " + v + " 1 0;", 2).of(0, 0), v);
            } else {
                faultAtBar("island 3;caster |" + v + " 1 0;");
            }
            if (v >= 1 && v <= 9) {
                due("7 its HEIGHT", reads("island 3;caster 0 " + v + " 0;", 2).of(0, 1), v);
            } else {
                faultAtBar("island 3;caster 0 |" + v + " 0;");
            }
            if (v <= 3) {
                due("7 its TASTE", reads("island 3;caster 0 1 " + v + ";", 2).of(0, 2), v);
            } else {
                faultAtBar("island 3;caster 0 1 |" + v + ";");
            }
        }
        NoonShade x = reads("island 3;caster 05 09 03;", 2);
        due("7 KIND 5, HEIGHT 9, TASTE 3", 100 * x.of(0, 0) + 10 * x.of(0, 1) + x.of(0, 2), 593);
        faultAtBar("island 3;caster 0 |00 0;");
    }

    private static void jarNumbers() {
        for (int v = 0; v <= 99; v++) {
            if (v <= 5) {
                due("7 its KIND", reads("island 3;jar " + v + ";", 2).about(0, 0), v);
                due("7 its KIND", reads("island 3;jar 0" + v + ";", 2).about(0, 0), v);
            } else {
                faultAtBar("island 3;jar |" + v + ";");
            }
        }
    }

    private static void hoursNumbers() {
        for (int v = 1; v <= 99; v++) {
            due("7 the HOUR behind them", reads("island 99;hours " + v + ";", 2).count(3), 99 + v);
        }
        faultAtBar("island 99;hours |0;");
        faultAtBar("island 99;hours |00;");
        faultAtBar("island 99;hours |100;");
        faultAtBar("island 99;hours |000;");
        faultAtBar("island 99;hours |001;");
        due("7 01 is 1", reads("island 99;hours 01;", 2).count(3), 100);
    }

    private static void ladleNumbers() {
        String two = "island 3;caster 0 1 0;caster 0 9 1;jar 0;jar 1;jar 2;";
        for (int v = 0; v <= 99; v++) {
            if (v < 2) {
                due("7 the CASTER", reads(two + "ladle " + v + " 0;", 7).of(v, 3), 1);
            } else {
                faultAtBar(two + "ladle |" + v + " 0;");
            }
            if (v < 3) {
                due("7 the JAR", reads(two + "ladle 0 " + v + ";", 7).about(v, 1), 1);
            } else {
                faultAtBar(two + "ladle 0 |" + v + ";");
            }
        }
        faultAtBar("island 3;ladle |0 0;");
        faultAtBar("island 3;jar 0;ladle |0 0;caster 0 1 0;");
        faultAtBar("island 3;caster 0 1 0;ladle 0 |0;jar 0;");
        String seven = "island 0;" + "caster 0 1 0;".repeat(7) + "jar 0;";
        due("7 the last CASTER of seven", reads(seven + "ladle 6 0;", 10).of(6, 3), 1);
        faultAtBar(seven + "ladle |7 0;");
        String four = "island 0;caster 0 1 0;jar 0;jar 0;jar 0;jar 0;";
        due("7 the last JAR of four", reads(four + "ladle 0 3;", 7).about(3, 1), 1);
        faultAtBar(four + "ladle 0 |4;");
    }

    private static void pourNumbers() {
        String three = "island 3;caster 0 9 0;jar 5;jar 0;jar 0;ladle 0 0;";
        for (int v = 0; v <= 99; v++) {
            if (v != 0) {
                faultAtBar(three + "pour |" + v + " 0;");
            }
            if (v == 1 || v == 2) {
                due("7 the JAR", reads(three + "pour 0 " + v + ";", 7).about(v, 1), 5);
            } else {
                faultAtBar(three + "pour 0 |" + v + ";");
            }
        }
        due("7 behind a pouring the first has nothing", reads(three + "pour 0 1;pour 1 0;", 8).about(0, 1), 5);
        faultAtBar(three + "pour 0 1;pour |0 1;");
        String four = "island 3;caster 0 9 0;jar 0;jar 0;jar 0;jar 0;ladle 0 3;";
        due("7 the last of four", reads(four + "pour 3 0;", 8).about(0, 1), 5);
        due("7 into the last of four", reads(four + "pour 3 0;pour 0 3;", 9).about(3, 1), 5);
        faultAtBar(four + "pour |4 0;");
        faultAtBar(four + "pour 3 |4;");
        faultAtBar("island 3;pour |0 1;");
    }

    /** 1 or 2 are one number; three or more are a fault, at the first one, whatever they say. */
    private static void figures() {
        reads("island 3;jar 5;", 2);
        reads("island 3;jar 05;", 2);
        faultAtBar("island 3;jar |005;");
        faultAtBar("island 3;jar |0005;");
        faultAtBar("island 3;jar |" + "0".repeat(40) + "5;");
        faultAtBar("island 3;jar |" + "0".repeat(137));
        faultAtBar("island |999;");
        faultAtBar("island |4294967296;");
        faultAtBar("island |18446744073709551616;");
        faultAtBar("|123 island 3;");
        faultAtBar("island 3;|123;");
        faultAtBar("island 3;caster 1 1 1 |123;");
        faultAtBar("island 3;caster 1 |011 1;");
        faultAtBar("island 1 |1;");
        faultAtBar("island |123");
        fault("island 12", 9);
        fault("island 1", 8);
    }

    // ---- every byte at every kind of place

    private static boolean letter(char c) {
        return c >= 'a' && c <= 'z';
    }

    private static boolean figure(char c) {
        return c >= '0' && c <= '9';
    }

    private static void everyByteForAWord() {
        for (char c = 0; c <= 127; c++) {
            fault(c + "", c == ' ' ? 1 : 0);
            if (c == ' ') {
                reads(c + "island 3;", 1);
            } else {
                fault(c + "island 3;", 0);
            }
        }
    }

    private static void everyByteForANumber() {
        for (char c = 0; c <= 127; c++) {
            String text = "island " + c + ";";
            if (figure(c)) {
                due("7 figure " + c, reads(text, 1).count(3), c - '0');
            } else {
                fault(text, c == ' ' ? 8 : 7);
            }
        }
    }

    private static void everyByteBehindAWord() {
        for (char c = 0; c <= 127; c++) {
            String text = "island" + c + "3;";
            if (c == ' ' || figure(c)) {
                due("7 the HOUR", reads(text, 1).count(3), c == ' ' ? 3 : 10 * (c - '0') + 3);
            } else {
                fault(text, letter(c) ? 0 : 6);
            }
        }
    }

    private static void everyByteBehindANumber() {
        for (char c = 0; c <= 127; c++) {
            String text = "island 3" + c + ";";
            if (c == ' ' || figure(c)) {
                due("7 the HOUR", reads(text, 1).count(3), c == ' ' ? 3 : 30 + c - '0');
            } else if (c == ';') {
                fault(text, 9);
            } else {
                fault(text, 8);
            }
        }
    }

    private static void everyByteBehindAnItem() {
        for (char c = 0; c <= 127; c++) {
            if (c == ' ') {
                reads("island 3;" + c, 1);
                reads("island 3;" + c + "jar 1;", 2);
            } else {
                fault("island 3;" + c, 9);
                fault("island 3;" + c + "jar 1;", 9);
                fault("island 3; " + c + " jar 1;", 10);
            }
        }
    }

    // ---- words

    private static void wordsThatAreNone() {
        String[] words = {"island", "caster", "jar", "ladle", "pour", "hours"};
        for (String word : words) {
            String ahead = word.equals("island") ? "" : "island 3;";
            int place = ahead.length();
            for (int cut = 1; cut < word.length(); cut++) {
                fault(ahead + word.substring(0, cut) + " 1 1 1;", place);
                fault(ahead + word.substring(cut) + " 1 1 1;", place);
            }
            for (int at = 0; at < word.length(); at++) {
                char other = word.charAt(at) == 'z' ? 'a' : (char) (word.charAt(at) + 1);
                fault(ahead + word.substring(0, at) + other + word.substring(at + 1) + " 1 1 1;", place);
            }
            fault(ahead + word + "s 1 1 1;", place);
            fault(ahead + "a" + word + " 1 1 1;", place);
            fault(ahead + word + word + " 1 1 1;", place);
            fault(ahead + Character.toUpperCase(word.charAt(0)) + word.substring(1) + " 1 1 1;", place);
        }
        fault("island 3;hour 1;", 9);
        fault("island 3;pours 0 1;", 9);
        fault("island 3;sells 0;", 9);
        fault("island 3;undo;", 9);
        fault("island 3;note 0 1 1 1;", 9);
        fault("isl and 3;", 0);
    }

    private static void islandOnceFirst() {
        reads("island 3;", 1);
        faultAtBar("island 3;|island 3;");
        faultAtBar("island 3;jar 1;|island 3;");
        faultAtBar("island 3;|island");
        for (String ahead : new String[] {"caster 0 1 0;", "jar 0;", "ladle 0 0;", "pour 0 1;", "hours 1;", ";", "5", "x"}) {
            fault(ahead + "island 3;", 0);
            fault("  " + ahead + "island 3;", 2);
        }
    }

    private static void seventhAndEighthCaster() {
        String six = "island 0;" + "caster 0 1 0;".repeat(6);
        due("7 seven", reads(six + "caster 5 9 3;", 8).count(0), 7);
        faultAtBar(six + "caster 5 9 3;|caster 5 9 3;");
        faultAtBar(six + "caster 5 9 3;|caster");
        faultAtBar(six + "caster 5 9 3;hours 1;  |caster 9");
        due("7 seven, and a jar", reads(six + "caster 5 9 3;jar 0;", 9).count(1), 1);
    }

    private static void fourthAndFifthJar() {
        String three = "island 0;jar 0;jar 0;jar 0;";
        due("7 four", reads(three + "jar 5;", 5).count(1), 4);
        faultAtBar(three + "jar 5;|jar 5;");
        faultAtBar(three + "jar 5;|jar");
        faultAtBar(three + "jar 5;hours 1; |jar 9;");
        due("7 four, and a caster", reads(three + "jar 5;caster 0 1 0;", 6).count(0), 1);
    }

    /** A word stands only at an item's beginning, a number and ; only behind it. */
    private static void everyWordEverywhere() {
        for (String word : new String[] {"island", "caster", "jar", "ladle", "pour", "hours", "zzz"}) {
            fault("island " + word + ";", 7);
            fault("island 3 " + word + ";", 9);
            fault("island 3;caster " + word + " 1 1;", 16);
            fault("island 3;caster 1 " + word + " 1;", 18);
            fault("island 3;caster 1 1 " + word + ";", 20);
            fault("island 3;caster 1 1 1 " + word + ";", 22);
            fault("island 3;jar " + word + ";", 13);
            fault("island 3;jar 1 " + word + ";", 15);
            fault("island 3;hours " + word + ";", 15);
            fault("island 3;hours 1 " + word + ";", 17);
        }
        faultAtBar("island|;");
        faultAtBar("island 3;caster|;");
        faultAtBar("island 3;caster 1|;");
        faultAtBar("island 3;caster 1 1|;");
        faultAtBar("island 3;caster 1 1 1 |1;");
        faultAtBar("island 3;jar|;");
        faultAtBar("island 3;jar 1 |1;");
        faultAtBar("island 3;hours|;");
        faultAtBar("island 3;hours 1 |1;");
        faultAtBar("island 3;|;");
        faultAtBar("island 3;|3;");
        String more = "island 3;caster 0 9 0;jar 0;jar 0;ladle 0 0;";
        faultAtBar(more + "hours 1;ladle|;");
        faultAtBar(more + "hours 1;ladle 0|;");
        faultAtBar(more + "hours 1;ladle 0 0 |0;");
        faultAtBar(more + "pour|;");
        faultAtBar(more + "pour 0|;");
        faultAtBar(more + "pour 0 1 |1;");
    }

    /** At each of its bytes a text can end: right behind ; it is whole, else the fault is its length. */
    private static void endsTooEarly() {
        String text = "island 11; caster 1 9 2;jar 5;jar 0 ;ladle 0 0;  pour 0 1;hours 99;";
        int items = 0;
        for (int length = 0; length <= text.length(); length++) {
            String part = text.substring(0, length);
            if (part.endsWith(";")) {
                items++;
            }
            String last = part.substring(part.lastIndexOf(';') + 1);
            if (last.isBlank() && items > 0) {
                reads(part, items);
            } else if (last.matches(" *[a-z]+") && !last.matches(" *(island|caster|jar|ladle|pour|hours)")) {
                // a word that is cut is none
                fault(part, length - last.trim().length());
            } else {
                fault(part, length);
            }
        }
        due("7 all seven", items, 7);
        fault("", 0);
        fault(" ", 1);
        fault("island 3;jar 0;  hours  ", 24);
    }

    private static void blanksBetween() {
        NoonShade x = reads("   island   11   ;   caster   1   9   2   ;   jar   5   ;   ", 3);
        due("7 the HOUR", x.count(3), 11);
        due("7 the CASTER", x.of(0, 1), 9);
        due("7 the JAR", x.about(0, 0), 5);
        NoonShade y = reads("island11;caster1 9 2;jar5;ladle0 0;hours1;", 5);
        due("7 the HOUR", y.count(3), 12);
        due("7 the JAR", y.about(0, 1), 13);
        // 19 are one number then
        faultAtBar("island 3;caster 0 |19 2;");
        faultAtBar("island 3;caster 0 1 0;jar 0;ladle 0|;");
        faultAtBar("island 3;caster 0 1 0;jar 0;ladle 00|;");
        faultAtBar("island 3;jar 0 |\t;");
        faultAtBar("island 3;|\njar 0;");
        faultAtBar("island|\u00003;");
    }

    // ---- milked, nothing in it, full

    private static void milkedInAText() {
        String ahead = "island 11;caster 0 9 0;caster 0 9 1;jar 0;jar 5;ladle 0 0;";
        faultAtBar(ahead + "ladle |0 0;");
        faultAtBar(ahead + "ladle |0 1;");
        faultAtBar(ahead + "ladle |0 9;");
        NoonShade x = reads(ahead + "ladle 1 0;", 7);
        due("7 both are MILKED", x.count(4), 2);
        due("7 mixed", x.about(0, 2), 4);
        due("7 so it is refused", x.ladle(0, 0), -3);
        NoonShade y = reads(ahead + "hours 1;ladle 0 0;", 8);
        due("7 one is MILKED", y.count(4), 1);
        due("7 cool", y.about(0, 1), 9);
        due("7 none is MILKED", reads(ahead + "hours 1;", 7).count(4), 0);
        // a cloud that gives nothing is MILKED, too
        faultAtBar("island 12;caster 3 9 0;jar 0;ladle 0 0;ladle |0 0;");
    }

    private static void pourInAText() {
        faultAtBar("island 11;jar 0;jar 0;pour |0 1;");
        faultAtBar("island 11;jar 0;jar 0;pour |0 0;");
        faultAtBar("island 11;jar 0;jar 0;pour |0 9;");
        faultAtBar("island 12;caster 3 9 0;jar 0;jar 0;ladle 0 0;pour |0 1;");
        String one = "island 12;caster 0 1 0;jar 0;jar 0;ladle 0 0;";
        due("7 one goes over", reads(one + "pour 0 1;", 6).about(1, 1), 1);
        faultAtBar(one + "pour 0 |0;");
        faultAtBar(one + "hours 1;pour |0 1;");
        String two = "island 12;caster 0 3 0;jar 0;jar 0;ladle 0 0;";
        due("7 one is left", reads(two + "hours 1;pour 0 1;", 7).about(1, 1), 1);
        faultAtBar(two + "hours 2;pour |0 1;");
        faultAtBar(two + "pour |1 0;");
        String both = "island 12;caster 0 9 0;caster 0 9 0;jar 0;jar 0;ladle 0 0;ladle 1 1;";
        faultAtBar(both + "pour 0 |0;");
        faultAtBar(both + "pour 1 |1;");
        due("7 the one into the other", reads(both + "pour 0 1;", 8).about(1, 1), 10);
        due("7 the other into the one", reads(both + "pour 1 0;", 8).about(0, 1), 10);
    }

    /** A ladle or a pouring by which nothing comes is no fault. */
    private static void fullJarsInAText() {
        String full = "island 12;" + "caster 5 9 0;".repeat(4) + "jar 5;jar 0;ladle 0 0;ladle 1 0;ladle 2 0;ladle 3 0;";
        NoonShade x = reads(full + "hours 1;ladle 0 0;", 13);
        due("7 sixty", x.about(0, 1), 60);
        due("7 MILKED", x.of(0, 3), 1);
        NoonShade y = reads(full + "hours 1;ladle 0 1;pour 1 0;", 14);
        due("7 sixty", y.about(0, 1), 60);
        due("7 nothing went over", y.about(1, 1), 17);
        NoonShade z = reads("island 12;caster 3 9 2;jar 0;ladle 0 0;", 4);
        due("7 nothing came", z.about(0, 1), 0);
        due("7 no TASTE", z.about(0, 2), -1);
        due("7 MILKED", z.count(4), 1);
    }

    /** Of several faults the first one counts. */
    private static void firstFaultCounts() {
        faultAtBar("island |100;jar 9;caster;");
        faultAtBar("island 3;jar |9;caster 9 9 9;");
        faultAtBar("island 3;caster |6 0 4;");
        faultAtBar("island 3;caster 5 |0 4;");
        faultAtBar("island 3;caster 5 1 |4 x");
        faultAtBar("island 3;ladle |5 9;");
        faultAtBar("island 3;caster 0 1 0;ladle 0 |9 x;");
        faultAtBar("island 3;jar 0;pour |0 0;");
        faultAtBar("|jar 9;island 100;");
    }

    // ---- what is read, and what stays

    private static NoonShade busy() {
        NoonShade x = Check.island(12, new int[][] {{1, 9, 2}, {0, 3, 1}}, 0, 2);
        x.image(0);
        x.ladle(0, 0);
        x.sells(0);
        x.ladle(1, 1);
        x.note(0, 1, 2, 3);
        x.mark(0, 1, 2, 3);
        x.image(1);
        x.hours(1);
        x.spilt(0, 1, 13, 3);
        x.jar(6);
        return x;
    }

    private static void whatIsReadTakesThePlace() {
        NoonShade x = busy();
        String text = "island 5;caster 4 3 1;jar 3;ladle 0 0;";
        due("7 read", Check.read(x, text), 4);
        int[] there = {1, 1, 9, 5, 1, 0, 0, 0, 0, text.length()};
        for (int what = 0; what <= 9; what++) {
            due("7 count(" + what + ")", x.count(what), there[what]);
        }
        due("7 NO: nothing to undo", x.undo(), -3);
        due("7 THE FRACTION stays", 100 * x.part(0) + x.part(1), 710);
        due("7 STATUS stays", x.status(0), 1);
        due("7 the same text again", x.read(), 4);
        due("7 image 1 stays", x.from(1), 1);
        due("7 it has a note", x.count(6), 1);
        due("7 it has SOLD", x.count(5), 28);
        due("7 it may undo", x.count(8), 3);
        due("7 image 0 stays", x.from(0), 1);
        due("7 it has neither", x.count(6) + x.count(5), 0);
        due("7 the text stays", x.count(9), text.length());
        due("7 it reads as ahead of it", x.read(), 4);
        due("7 casters then", x.caster(0, 1, 0), 1);
        due("7 jars then", x.jar(0), 1);
    }

    private static void faultsChangeNothing() {
        for (String text : new String[] {"", " ", "island", "island 5", "island 5;;", "island 5;jar 1;jar 6;", "jar 1;",
            "island 5;caster 1 9 0;jar 1;ladle 0 0;ladle 0 0;", "island 5;hours 100;", "island 100;", "island 5;jar 0;hours 9;x"}) {
            NoonShade x = busy();
            NoonShade twin = busy();
            Check.type(x, text);
            Check.type(twin, text);
            int refusals = Calls.refusals(x);
            CHECK.holds("7 \"" + text + "\" is a fault", x.read() <= -10);
            due("7 that is no refusal", Calls.refusals(x), refusals);
            CHECK.holds("7 \"" + text + "\": all stays", Calls.allOf(x).equals(Calls.allOf(twin)));
        }
    }
}
