import java.lang.reflect.Method;
import java.util.ArrayList;
import java.util.HashMap;
import java.util.List;
import java.util.Map;
import java.util.Random;

/** Runs by chance, of a fixed seed, against the model: every answer, and the digest now and then. */
public final class ModelTest {
    private static final Check CHECK = new Check();
    private static final int CALLS = 512;
    private static final int RUNS = 400;
    private static final Map<String, Method> METHODS = new HashMap<>();

    private final Random chance;
    private final int run;
    private final NoonShade x = new NoonShade();
    private final Model model = new Model();
    private final List<String> log = new ArrayList<>();
    private int calls = 0;

    private ModelTest(int run) {
        this.run = run;
        this.chance = new Random(run);
    }

    public static void main(String[] args) throws Exception {
        for (Method m : NoonShade.class.getDeclaredMethods()) {
            METHODS.put(m.getName(), m);
        }
        int runs = args.length > 0 ? Integer.parseInt(args[0]) : RUNS;
        for (int run = 0; run < runs && CHECK.allRight(); run++) {
            new ModelTest(run).go();
        }
        CHECK.finish("ModelTest");
    }

    private void go() throws Exception {
        if (run % 8 == 7) {
            waitForTheLastHours();
        }
        while (calls < CALLS && CHECK.allRight()) {
            oneMove();
        }
        if (!CHECK.allRight()) {
            System.out.println("run " + run + ":");
            log.forEach(System.out::println);
        }
    }

    /** One run of eight goes on close to hour 9999. */
    private void waitForTheLastHours() throws Exception {
        ask("island", 99);
        for (int k = 0; k < 164; k++) {
            ask("hours", 60);
        }
        ask("hours", 40 + below(20));
    }

    private int below(int n) {
        return chance.nextInt(n);
    }

    /** Mostly from low to high, at times just outside, rarely far outside. */
    private int about(int low, int high) {
        int way = below(60);
        if (way == 0) {
            return low - 1;
        }
        if (way == 1) {
            return high + 1;
        }
        if (way == 2 && below(4) == 0) {
            return chance.nextInt();
        }
        return low + below(high - low + 1);
    }

    private int aCaster() {
        return about(0, Math.max(0, model.w.casters.size() - 1));
    }

    private int aJar() {
        return about(0, Math.max(0, model.w.jars.size() - 1));
    }

    private void ask(String name, int... a) throws Exception {
        if (calls >= CALLS) {
            return;
        }
        calls++;
        Object[] boxed = new Object[a.length];
        StringBuilder call = new StringBuilder(name).append('(');
        for (int k = 0; k < a.length; k++) {
            boxed[k] = a[k];
            call.append(k == 0 ? "" : ", ").append(a[k]);
        }
        call.append(')');
        long got = ((Number) METHODS.get(name).invoke(x, boxed)).longValue();
        long want = model.call(name, a);
        log.add(call + " = " + got);
        CHECK.due("run " + run + ", call " + calls + ": " + call, got, want);
    }

    private void oneMove() throws Exception {
        switch (below(20)) {
            case 0:
            case 1:
                settle();
                break;
            case 2:
                tellByText();
                break;
            case 3:
            case 4:
            case 5:
            case 6:
            case 7:
            case 8:
                act();
                break;
            case 9:
            case 10:
            case 11:
            case 12:
                askHowMuch();
                break;
            case 13:
            case 14:
            case 15:
                learn();
                break;
            default:
                askTheRest();
                break;
        }
        if (below(10) == 0) {
            ask("digest");
        }
    }

    private void settle() throws Exception {
        if (below(12) == 0) {
            ask("island", about(0, 99));
        }
        if (model.w.casters.size() < 7 || below(8) == 0) {
            ask("caster", about(0, 5), about(1, 9), about(0, below(2) == 0 ? 1 : 3));
        }
        if (model.w.jars.size() < 4 || below(8) == 0) {
            ask("jar", about(0, 5));
        }
    }

    private void act() throws Exception {
        switch (below(10)) {
            case 0:
                ask("pours", aJar(), aJar());
                break;
            case 1:
                ask("sells", aJar());
                break;
            case 2:
                ask("hours", about(1, below(4) == 0 ? 60 : 4));
                break;
            case 3:
                ask("undo");
                break;
            case 4:
                ask("hours", 1);
                break;
            default:
                ask("ladle", aCaster(), aJar());
                break;
        }
    }

    private void askHowMuch() throws Exception {
        switch (below(9)) {
            case 0:
                ask("gives", aCaster(), about(0, 60));
                break;
            case 1:
                ask("keeps", aJar(), about(0, 60));
                break;
            case 2:
                ask("when", aCaster());
                break;
            case 3:
                ask("gone", aJar());
                break;
            case 4:
                int n = about(1, below(6) == 0 ? 4 : 3);
                int j = aJar();
                ask("round", j, n, -2);
                ask("round", j, n, about(0, 3));
                break;
            case 5:
                ask("few", aJar(), about(0, 3), about(1, below(2) == 0 ? 60 : 25), about(0, 1));
                break;
            case 6:
                ask("into", aJar(), about(1, 30), 0);
                ask("into", aJar(), about(1, 4), about(0, 1));
                break;
            case 7:
                ask("of", aCaster(), about(0, 4));
                break;
            default:
                ask("about", aJar(), about(0, 3));
                break;
        }
    }

    private void learn() throws Exception {
        switch (below(8)) {
            case 0:
                int h = about(1, 9);
                int t = about(0, 23);
                boolean true0 = below(4) != 0 && h >= 1 && h <= 9 && t >= 0 && t <= 23;
                ask("note", aCaster(), h, t, true0 ? Model.CASTER_KINDS.get(below(6)).gives(h, t) : about(0, 40));
                break;
            case 1:
                int c = about(0, 60);
                int u = about(0, 23);
                boolean true1 = below(4) != 0 && c >= 0 && c <= 60 && u >= 0 && u <= 23;
                ask("mark", aJar(), c, u, true1 ? Model.JAR_KINDS.get(below(6)).loses(c, u) : about(0, 60));
                break;
            case 2:
                if (below(3) == 0) {
                    ask("forget", about(0, 1));
                }
                break;
            case 3:
                ask("is", aCaster());
                break;
            case 4:
                ask("look", aCaster());
                break;
            case 5:
                ask("kinds", aJar());
                break;
            case 6:
                ask("ask", aJar());
                break;
            default:
                ask("two", about(-1, 3));
                break;
        }
    }

    private void askTheRest() throws Exception {
        switch (below(8)) {
            case 0:
                ask("spilt", aJar(), about(0, 3), about(0, below(2) == 0 ? 60 : 20), about(0, 10));
                ask("part", 0);
                ask("part", about(0, 1));
                break;
            case 1:
                ask("noons", about(0, 999999), about(0, 60));
                break;
            case 2:
                ask("image", about(0, 1));
                break;
            case 3:
                ask("from", about(0, 1));
                break;
            case 4:
                ask("status", about(0, 2));
                break;
            case 5:
                ask("two", -1);
                ask("two", about(0, 2));
                break;
            default:
                ask("count", about(0, 9));
                break;
        }
    }

    private void tellByText() throws Exception {
        if (below(3) != 0 && calls > 0) {
            return;
        }
        ask("clear");
        String told = told();
        for (int k = 0; k < told.length(); k++) {
            ask("type", told.charAt(k));
        }
        ask("read");
        ask("digest");
    }

    private String told() {
        StringBuilder s = new StringBuilder();
        if (below(20) != 0) {
            s.append("island ").append(below(100)).append(';');
        }
        int items = below(12);
        for (int k = 0; k < items && s.length() < 140; k++) {
            s.append(toldItem());
        }
        if (below(3) == 0 && s.length() > 0) {
            spoil(s);
        }
        return s.length() > 152 ? s.substring(0, 152) : s.toString();
    }

    private String toldItem() {
        switch (below(7)) {
            case 0:
            case 1:
                return "caster " + below(6) + " " + (1 + below(9)) + " " + below(4) + ";";
            case 2:
            case 3:
                return "jar " + below(6) + ";";
            case 4:
                return "ladle " + below(3) + " " + below(2) + ";";
            case 5:
                return "pour " + below(2) + " " + below(2) + ";";
            default:
                return "hours " + (1 + below(12)) + ";";
        }
    }

    private void spoil(StringBuilder s) {
        int at = below(s.length());
        String others = "; 0179azhjAZ-\u0000\u007f/:`{\t";
        char other = others.charAt(below(others.length()));
        switch (below(3)) {
            case 0:
                s.setCharAt(at, other);
                break;
            case 1:
                s.insert(at, other);
                break;
            default:
                s.deleteCharAt(at);
                break;
        }
    }
}
