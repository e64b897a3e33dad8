/** Counts the answers that are not the ones that are due. */
final class Check {
    private int wrong = 0;
    private int asked = 0;

    void due(String call, long got, long want) {
        asked++;
        if (got != want) {
            wrong++;
            System.out.println(call + " answered " + got + ", due is " + want);
        }
    }

    void holds(String what, boolean so) {
        due(what, so ? 1 : 0, 1);
    }

    boolean allRight() {
        return wrong == 0;
    }

    void finish(String name) {
        System.out.println(name + ": " + asked + " answers looked at, " + wrong + " wrong");
        if (wrong != 0 || asked == 0) {
            System.exit(1);
        }
    }

    /** A new object with casters {kind, height, taste} and jars of these kinds at an hour. */
    static NoonShade island(int hour, int[][] casters, int... jars) {
        NoonShade x = new NoonShade();
        x.island(hour);
        for (int[] c : casters) {
            x.caster(c[0], c[1], c[2]);
        }
        for (int kind : jars) {
            x.jar(kind);
        }
        return x;
    }

    static void type(NoonShade x, String text) {
        x.clear();
        for (int k = 0; k < text.length(); k++) {
            x.type(text.charAt(k));
        }
    }

    static int read(NoonShade x, String text) {
        type(x, text);
        return x.read();
    }
}
