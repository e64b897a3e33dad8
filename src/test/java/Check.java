/** Counts the answers that are not the ones that are due. */
final class Check {
    private int wrong = 0;
    private int asked = 0;

    void due(String call, long got, long want) {
        asked++;
        if (got != want) {
            wrong++;
            System.out.println(call + " answered " + got + ", due is " + want);
        }
    }

    void holds(String what, boolean so) {
        due(what, so ? 1 : 0, 1);
    }

    boolean allRight() {
        return wrong == 0;
    }

    void finish(String name) {
        System.out.println(name + ": " + asked + " answers looked at, " + wrong + " wrong");
        if (wrong != 0 || asked == 0) {
            System.exit(1);
        }
    }

    /** A new object with casters {kind, height, taste} and jars of these kinds at an hour. */
    static NoonShade island(int hour, int[][] casters, int... jars) {
        NoonShade x = new NoonShade();
        x.island(hour);
        for (int[] c : casters) {
            x.caster(c[0], c[1], c[2]);
        }
        for (int kind : jars) {
            x.jar(kind);
        }
        return x;
    }

    /**
     * A new object at an hour of a day (24 .. 47, so that all hours of a day can be had) whose jar 0 of this kind has
     * exactly this cool, of taste 0; jar 1, a cellar, is empty. Casters 0 .. 5 are walls that give 5; caster 5 is not
     * milked below a cool of 60, and then caster 6, which gives 1, is not.
     */
    static NoonShade filled(int kind, int hourOfDay, int cool) {
        NoonShade x = new NoonShade();
        x.island(hourOfDay + 23);
        for (int i = 0; i < 6; i++) {
            x.caster(0, 9, 0);
        }
        x.caster(0, Math.max(1, 2 * (cool % 5)), 0);
        x.jar(kind);
        x.jar(5);
        // a cellar keeps 30 over the hour, so that sixty can be had at any hour
        int ahead = cool >= 30 ? 30 : 0;
        for (int i = 0; i < ahead / 5; i++) {
            x.ladle(i, 1);
        }
        x.hours(1);
        if (ahead > 0) {
            x.pours(1, 0);
        }
        for (int i = 0; i < (cool - ahead) / 5; i++) {
            x.ladle(i, 0);
        }
        if (cool % 5 > 0) {
            x.ladle(6, 0);
        }
        return x;
    }

    static void type(NoonShade x, String text) {
        x.clear();
        for (int k = 0; k < text.length(); k++) {
            x.type(text.charAt(k));
        }
    }

    static int read(NoonShade x, String text) {
        type(x, text);
        return x.read();
    }
}
