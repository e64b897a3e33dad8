import java.lang.reflect.Constructor;
import java.lang.reflect.Field;
import java.lang.reflect.Method;
import java.lang.reflect.Modifier;
import java.nio.file.Files;
import java.nio.file.Path;
import java.util.Arrays;
import java.util.List;
import java.util.Set;
import java.util.TreeSet;
import java.util.regex.Matcher;
import java.util.regex.Pattern;

/** The face that the document prints, and what LANGUAGE.md says of the file where a look at it can tell. */
public final class FaceTest {
    private static final Check CHECK = new Check();

    private static final List<String> FACE = List.of(
        "int island(int)", "int caster(int,int,int)", "int jar(int)", "int type(int)", "int clear()", "int read()",
        "int ladle(int,int)", "int pours(int,int)", "int sells(int)", "int hours(int)", "int undo()", "int of(int,int)",
        "int about(int,int)", "int gives(int,int)", "int keeps(int,int)", "int when(int)", "int gone(int)",
        "int round(int,int,int)", "int few(int,int,int,int)", "int into(int,int,int)", "int note(int,int,int,int)",
        "int mark(int,int,int,int)", "int forget(int)", "int is(int)", "int look(int)", "int kinds(int)", "int ask(int)",
        "int two(int)", "int spilt(int,int,int,int)", "int noons(int,int)", "long part(int)", "int image(int)",
        "int from(int)", "int status(int)", "int count(int)", "long digest()");

    public static void main(String[] args) throws Exception {
        face();
        constants();
        membersHidden();
        classesInside();
        words();
        callsMakeNothing();
        CHECK.finish("FaceTest");
    }

    private static void face() {
        Set<String> got = new TreeSet<>();
        Set<String> names = new TreeSet<>();
        for (Method m : NoonShade.class.getDeclaredMethods()) {
            if (Modifier.isPublic(m.getModifiers())) {
                got.add(told(m));
                names.add(m.getName());
            }
        }
        CHECK.holds("the public methods are " + got, got.equals(new TreeSet<>(FACE)));
        CHECK.holds("public and final", Modifier.isPublic(NoonShade.class.getModifiers()) && Modifier.isFinal(NoonShade.class.getModifiers()));
        Constructor<?>[] made = NoonShade.class.getDeclaredConstructors();
        CHECK.holds("one public constructor", made.length == 1 && Modifier.isPublic(made[0].getModifiers()) && made[0].getParameterCount() == 0);
        for (Class<?> inside : NoonShade.class.getDeclaredClasses()) {
            for (Method m : inside.getDeclaredMethods()) {
                CHECK.holds(inside.getSimpleName() + "." + m.getName() + " has a name of its own", !names.contains(m.getName()));
            }
        }
    }

    private static String told(Method m) {
        StringBuilder s = new StringBuilder(m.getReturnType().getName()).append(' ').append(m.getName()).append('(');
        Class<?>[] types = m.getParameterTypes();
        for (int k = 0; k < types.length; k++) {
            s.append(k == 0 ? "" : ",").append(types[k].getName());
        }
        return s.append(')').toString();
    }

    private static void constants() {
        CHECK.due("NONE", NoonShade.NONE, -1);
        CHECK.due("BAD", NoonShade.BAD, -2);
        CHECK.due("NO", NoonShade.NO, -3);
        CHECK.due("FULL", NoonShade.FULL, -4);
    }

    private static void membersHidden() {
        for (Field f : NoonShade.class.getDeclaredFields()) {
            boolean told = List.of("NONE", "BAD", "NO", "FULL").contains(f.getName());
            CHECK.holds("field " + f.getName(), told ? Modifier.isPublic(f.getModifiers()) : Modifier.isPrivate(f.getModifiers()));
            CHECK.holds("field " + f.getName() + " is no static state", !Modifier.isStatic(f.getModifiers()) || Modifier.isFinal(f.getModifiers()));
        }
        for (Method m : NoonShade.class.getDeclaredMethods()) {
            CHECK.holds("method " + m.getName(), Modifier.isPublic(m.getModifiers()) || Modifier.isPrivate(m.getModifiers()));
            CHECK.holds("parameters of " + m.getName(), m.getParameterCount() <= 7);
        }
    }

    private static void classesInside() {
        Class<?>[] inside = NoonShade.class.getDeclaredClasses();
        CHECK.holds("some twelve classes", inside.length < 12);
        for (Class<?> c : inside) {
            CHECK.holds(c.getSimpleName() + " is private and static", Modifier.isPrivate(c.getModifiers()) && Modifier.isStatic(c.getModifiers()));
            long fields = Arrays.stream(c.getDeclaredFields()).filter(f -> !Modifier.isStatic(f.getModifiers())).count();
            CHECK.holds(c.getSimpleName() + " has some twenty fields", fields <= 20);
        }
    }

    /** Words and signs that the rules leave out; comments and texts are taken away first. */
    private static void words() throws Exception {
        String source = Files.readString(Path.of(System.getProperty("noonshade.source", "src/main/java/NoonShade.java")));
        for (int k = 0; k < source.length(); k++) {
            char c = source.charAt(k);
            CHECK.holds("sign " + (int) c + " at " + k, c == '\n' || c >= ' ' && c < 127);
        }
        String bare = source.replaceAll("(?s)/\\*.*?\\*/", "").replaceAll("//[^\n]*", "").replaceAll("\"[^\"\n]*\"", "\"\"");
        for (String word : List.of("throw", "throws", "try", "catch", "finally", "synchronized", "assert", "package", "import",
            "native", "volatile", "transient", "strictfp", "protected", "yield", "var", "record", "sealed", "double", "float")) {
            CHECK.holds("no " + word, !Pattern.compile("\\b" + word + "\\b").matcher(bare).find());
        }
        CHECK.holds("no lambda, no arrow", !bare.contains("->"));
        CHECK.holds("no method reference", !bare.contains("::"));
        CHECK.holds("no static block", !Pattern.compile("static\\s*\\{").matcher(bare).find());
        Matcher library = Pattern.compile("\\b(System|Math|Integer|Long|Arrays|String|Character|Object|List)\\b\\.?(\\w*)").matcher(bare);
        Set<String> allowed = Set.of("System.arraycopy", "Math.min", "Math.max", "Math.abs", "Integer.bitCount", "String");
        while (library.find()) {
            CHECK.holds("library: " + library.group(), allowed.contains(library.group()));
        }
        methodsStayShort(bare);
    }

    private static void methodsStayShort(String bare) {
        int since = 0;
        int line = 0;
        for (String row : bare.split("\n")) {
            line++;
            if (row.matches("\\s+(public|private|static|final)?.*\\) \\{") && !row.matches("\\s+(if|for|while|switch|\\}).*")) {
                since = line;
            }
            if (since > 0 && row.matches("( {4}| {8})\\}")) {
                CHECK.holds("the method at line " + since + " is short", line - since <= 60);
                since = 0;
            }
        }
    }

    /** One room for all calls of a run: what is needed is made with the object. */
    private static void callsMakeNothing() throws Exception {
        NoonShade[] made = new NoonShade[40];
        for (int k = 0; k < made.length; k++) {
            made[k] = Check.island(11, new int[][] {{0, 1, 0}, {1, 2, 1}, {2, 3, 2}, {3, 4, 3}, {4, 5, 0}, {5, 6, 1}, {1, 7, 2}}, 0, 3, 4, 5);
        }
        com.sun.management.ThreadMXBean threads =
            (com.sun.management.ThreadMXBean) java.lang.management.ManagementFactory.getThreadMXBean();
        dearCalls(made[0]);
        long before = threads.getCurrentThreadAllocatedBytes();
        for (int k = 1; k < made.length; k++) {
            dearCalls(made[k]);
        }
        long bytes = threads.getCurrentThreadAllocatedBytes() - before;
        CHECK.holds("calls make nothing, these made " + bytes + " bytes", bytes < 20000);
    }

    private static void dearCalls(NoonShade x) {
        for (int k = 0; k < 12; k++) {
            x.type("island 3;jar 0;".charAt(k));
        }
        for (int k = 0; k < 8; k++) {
            x.ladle(k % 7, k % 4);
            x.hours(1);
            x.round(k % 4, 4, -2);
            x.spilt(k % 4, 4, 9, 3);
            x.few(k % 4, 1, 40, 1);
            x.noons(k, 60);
            x.look(0);
            x.ask(0);
            x.two(-1);
            x.image(k % 2);
            x.from(k % 2);
            x.undo();
            x.digest();
            x.read();
            x.into(k % 4, 30, 1);
        }
    }
}
