import java.lang.management.ManagementFactory;
import java.lang.reflect.Constructor;
import java.lang.reflect.Field;
import java.lang.reflect.Method;
import java.lang.reflect.Modifier;
import java.nio.charset.StandardCharsets;
import java.nio.file.Files;
import java.nio.file.Paths;
import java.util.ArrayList;
import java.util.Arrays;
import java.util.HashMap;
import java.util.HashSet;
import java.util.List;
import java.util.Map;
import java.util.Set;
import java.util.TreeSet;
import java.util.regex.Matcher;
import java.util.regex.Pattern;

/** The face, and what can be seen of LANGUAGE.md's rules from outside or from the source alone. */
public final class RulesTest {
    private static final Check CHECK = new Check();

    private static final String ARGUMENT = " IllegalArgumentException";
    private static final String INDEX = " IndexOutOfBoundsException";
    private static final String STATE = " IllegalStateException";

    // Each method with the exceptions that the document's face names behind it, in their order.
    private static final String[] FACE = {
        "append(int)" + ARGUMENT + STATE, "clearText()", "errorPosition()", "load()" + STATE,
        "about(int)" + ARGUMENT, "square(int,int,int)" + INDEX + ARGUMENT, "place(int,int)" + INDEX + ARGUMENT,
        "tile(int,int)" + INDEX + ARGUMENT,
        "begin(int,int)" + ARGUMENT, "grey(int,int,int)" + INDEX + ARGUMENT, "fade(int,int)" + ARGUMENT,
        "turn(int)" + INDEX + STATE, "swap(int,int)" + INDEX + ARGUMENT + STATE, "flip(int,int)" + INDEX + STATE,
        "hold(int,boolean)" + INDEX, "lay()", "improve(int)" + ARGUMENT, "undo()" + STATE,
        "gain(int)" + ARGUMENT, "best(int)" + ARGUMENT, "ifImproved(int,int)" + ARGUMENT, "least()", "worst(int)" + INDEX,
        "fits(int)" + INDEX,
        "runScript(int,long)" + ARGUMENT, "simulate(long,int)" + ARGUMENT,
        "save(int)" + INDEX, "restore(int)" + INDEX + STATE};

    public static void main(String[] args) throws Exception {
        String path = args.length > 0 ? args[0] : "src/main/java/PipPortrait.java";
        String source = new String(Files.readAllBytes(Paths.get(path)), StandardCharsets.ISO_8859_1);
        face();
        innerClasses();
        words(source);
        methods(source);
        heap();
        CHECK.end("RulesTest");
    }

    private static void face() {
        Class<?> c = PipPortrait.class;
        CHECK.holds("public and final", Modifier.isPublic(c.getModifiers()) && Modifier.isFinal(c.getModifiers()));
        Set<String> names = new TreeSet<>();
        for (Method m : c.getDeclaredMethods()) {
            if (Modifier.isPrivate(m.getModifiers())) continue;
            CHECK.holds("public: " + m, Modifier.isPublic(m.getModifiers()) && !Modifier.isStatic(m.getModifiers()));
            CHECK.holds("answers an int: " + m, m.getReturnType() == int.class);
            StringBuilder told = new StringBuilder(m.getName()).append('(');
            for (Class<?> p : m.getParameterTypes()) told.append(told.charAt(told.length() - 1) == '(' ? "" : ",").append(p.getName());
            told.append(')');
            for (Class<?> thrown : m.getExceptionTypes()) told.append(' ').append(thrown.getSimpleName());
            names.add(told.toString());
        }
        CHECK.same("the methods", new TreeSet<>(Arrays.asList(FACE)).toString(), names.toString());
        int constants = 0;
        for (Field f : c.getDeclaredFields()) {
            if (!Modifier.isPrivate(f.getModifiers())) {
                constants++;
                CHECK.same("the constant", "public static final int PipPortrait.NONE", f.toString());
            }
        }
        CHECK.holds("one constant", constants == 1);
        CHECK.due("NONE", -1, () -> PipPortrait.NONE);
        Constructor<?>[] made = c.getDeclaredConstructors();
        CHECK.holds("one public constructor without parameters",
                made.length == 1 && Modifier.isPublic(made[0].getModifiers()) && made[0].getParameterCount() == 0);
    }

    private static void innerClasses() {
        Set<String> face = new HashSet<>();
        for (String f : FACE) face.add(f.substring(0, f.indexOf('(')));
        Class<?>[] inside = PipPortrait.class.getDeclaredClasses();
        CHECK.holds("some twelve classes at most", inside.length <= 12);
        List<Class<?>> all = new ArrayList<>(Arrays.asList(inside));
        for (Class<?> c : all) {
            CHECK.holds("private and static: " + c, Modifier.isPrivate(c.getModifiers()) && Modifier.isStatic(c.getModifiers()));
            for (Method m : c.getDeclaredMethods()) CHECK.holds("bears no name of the face: " + m, !face.contains(m.getName()));
        }
        all.add(PipPortrait.class);
        for (Class<?> c : all) {
            int fields = 0;
            for (Field f : c.getDeclaredFields()) {
                boolean isStatic = Modifier.isStatic(f.getModifiers());
                fields += isStatic ? 0 : 1;
                CHECK.holds("a static field is final: " + f, !isStatic || Modifier.isFinal(f.getModifiers()));
            }
            CHECK.holds("some twenty fields at most: " + c, fields <= 20);
            for (Method m : c.getDeclaredMethods()) {
                CHECK.holds("at most seven parameters: " + m, m.getParameterCount() <= 7);
                if (Modifier.isPrivate(m.getModifiers())) CHECK.holds("bears no name of the face: " + m, !face.contains(m.getName()));
            }
        }
    }

    private static void words(String source) {
        for (int i = 0; i < source.length(); i++) {
            char c = source.charAt(i);
            if (c > 126 || (c < 32 && c != '\n')) CHECK.holds("the sign " + (int) c + " at " + i, false);
        }
        String code = bare(source);
        String[] none = {"->", "::", "catch", "try ", "try{", "finally", "synchronized", "assert", "instanceof", "package", "System.out",
            "System.nano", "System.current", "Random", "Thread", "float", "double", "while", "protected", "Object", "Iterator", "record"};
        for (String word : none) CHECK.holds("no " + word, !code.contains(word));
        Matcher imports = Pattern.compile("import ([a-zA-Z.]+);").matcher(code);
        while (imports.find()) CHECK.same("import", "java.util.Arrays", imports.group(1));
        Matcher thrown = Pattern.compile("throw new ([A-Za-z]+)\\(").matcher(code);
        while (thrown.find()) CHECK.holds("throws " + thrown.group(1), thrown.group(1).matches("Illegal(State|Argument)Exception|IndexOutOfBoundsException"));
        Matcher library = Pattern.compile("\\b(Math|Arrays|System|Integer|Long|String)\\.([a-zA-Z]+)").matcher(code);
        while (library.find()) CHECK.holds("library: " + library.group(), library.group().matches("Math\\.(min|max)|Arrays\\.fill|System\\.arraycopy"));
    }

    // The source without comments and without what stands in quotes.
    private static String bare(String source) {
        return source.replaceAll("(?s)/\\*.*?\\*/", "").replaceAll("//[^\n]*", "").replaceAll("\"[^\"\n]*\"", "\"\"").replaceAll("'.'", "' '");
    }

    // Lengths of methods, and how deep they call one another (by their names alone).
    private static void methods(String source) {
        String code = bare(source);
        Matcher heads = Pattern.compile("\n {4,8}(?:(?:public|private|static) )*(?:[A-Za-z]+(?:\\[\\])? )?([a-zA-Z]+)\\([^()]*\\)[^;{}()]*\\{").matcher(code);
        Map<String, String> bodies = new HashMap<>();
        while (heads.find()) {
            int end = heads.end();
            for (int open = 1; open > 0; end++) open += code.charAt(end) == '{' ? 1 : code.charAt(end) == '}' ? -1 : 0;
            String body = code.substring(heads.end(), end);
            CHECK.holds("some sixty lines at most: " + heads.group(1), body.split("\n").length <= 60);
            bodies.merge(heads.group(1), body, String::concat);
        }
        for (String f : FACE) CHECK.holds("found " + f, bodies.containsKey(f.substring(0, f.indexOf('('))));
        CHECK.holds("found more", bodies.size() > 60);
        Map<String, Integer> depths = new HashMap<>();
        for (String name : bodies.keySet()) {
            int depth = depth(name, bodies, depths, 0);
            CHECK.holds("calls go " + depth + " deep from " + name, depth <= 8);
        }
    }

    private static int depth(String name, Map<String, String> bodies, Map<String, Integer> depths, int above) {
        if (above > 100) throw new IllegalStateException("recursion at " + name);
        if (depths.containsKey(name)) return depths.get(name);
        int deepest = 0;
        Matcher calls = Pattern.compile("(new )?\\b([a-zA-Z]+)\\(").matcher(bodies.get(name));
        while (calls.find()) {
            String called = calls.group(2);
            if (bodies.containsKey(called) && !(called.equals("isEmpty"))) deepest = Math.max(deepest, depth(called, bodies, depths, above + 1));
        }
        depths.put(name, deepest + 1);
        return deepest + 1;
    }

    // What 512 of the dearest calls make; the room for a whole run is 7.3 million fields and elements.
    private static void heap() {
        com.sun.management.ThreadMXBean threads = (com.sun.management.ThreadMXBean) ManagementFactory.getThreadMXBean();
        long id = Thread.currentThread().getId();
        PipPortrait warm = new PipPortrait();
        dear(warm, 3);
        long start = threads.getThreadAllocatedBytes(id);
        PipPortrait x = new PipPortrait();
        long made = threads.getThreadAllocatedBytes(id) - start;
        CHECK.holds("a new object takes " + made + " bytes", made < 64000);
        start = threads.getThreadAllocatedBytes(id);
        dear(x, 30);
        made = threads.getThreadAllocatedBytes(id) - start;
        CHECK.holds("calls make " + made + " bytes", made < 20000);
    }

    private static void dear(PipPortrait x, int times) {
        x.begin(6, 2);
        x.clearText();
        String text = "D62p71399f0001t55s5554b713h00li20i01";
        for (int i = 0; i < text.length(); i++) x.append(text.charAt(i));
        for (int i = 0; i < times; i++) {
            x.load();
            x.fade(i, 99 - i);
            x.simulate(i, 30);
            x.improve(5);
            x.ifImproved(20, i % 2);
            x.best(0);
            x.lay();
            x.flip(0, 4);
            x.gain(10001);
            x.runScript(3, 500020500020500020L);
            x.worst(5);
            x.fits(7);
            x.least();
            x.save(0);
            x.undo();
            x.restore(0);
        }
    }
}
