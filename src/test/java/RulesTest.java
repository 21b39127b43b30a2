import java.lang.reflect.Field;
import java.lang.reflect.Method;
import java.lang.reflect.Modifier;
import java.nio.file.Files;
import java.nio.file.Path;
import java.util.Arrays;
import java.util.List;
import java.util.Map;
import java.util.Set;
import java.util.TreeMap;
import java.util.TreeSet;
import java.util.regex.Matcher;
import java.util.regex.Pattern;

/** The face as the document tells it, and what of LANGUAGE.md a test can see. */
public final class RulesTest {
    private static final Due T = new Due("RulesTest");
    private static final String FACE = "about(int,int)int act(int)int add(int)int anyhow()int as(int,int)int ask()int "
        + "blank()int come(int)int count(int)int digest()long fact(int)int fault(int)int fits(int,int)int "
        + "hearer(int,int,int)int image()int isSo(int,int)int left(int)int letter(int)int reading(int)int "
        + "restore()int round()int say()int sense(int)int senses()int set(int,int)int tell(int)int then(int)int "
        + "times(int,int,int)int";
    private static final Pattern METHOD = Pattern.compile("^(?: {4}| {8})(?:[a-z]+ )*[A-Za-z\\[\\]]+ (\\w+)\\([^()]*\\) \\{$");
    private static final String[] RULED_OUT = {
        "import ", "package ", "catch", "throw", "try ", "finally", "->", "::", "synchronized", "assert", "@",
        "Exact(", "System.", "Random", "Object", "null", "String", "double", "float"
    };

    public static void main(String[] args) throws Exception {
        face();
        members(AsWasSaid.class);
        for (Class<?> inside : AsWasSaid.class.getDeclaredClasses()) {
            members(inside);
            T.due(inside + " is static and private", inside.getModifiers() & 15, Modifier.STATIC | Modifier.PRIVATE);
        }
        T.due("at most twelve classes", AsWasSaid.class.getDeclaredClasses().length < 12 ? 1 : 0, 1);
        List<String> lines = Files.readAllLines(Path.of(System.getProperty("source")));
        source(lines);
        calls(lines);
        everyCallEverywhere();
        T.end();
    }

    private static void face() {
        Set<String> methods = new TreeSet<>();
        for (Method method : AsWasSaid.class.getDeclaredMethods()) {
            if (!Modifier.isPrivate(method.getModifiers())) {
                String parameters = Arrays.toString(method.getParameterTypes()).replaceAll("[\\[\\] ]", "");
                methods.add(method.getName() + "(" + parameters + ")" + method.getReturnType());
                T.due(method + " is public alone", method.getModifiers(), Modifier.PUBLIC);
            }
        }
        T.due("the face's methods " + methods, methods.equals(Set.of(FACE.split(" "))) ? 1 : 0, 1);
        Set<String> constants = new TreeSet<>();
        for (Field field : AsWasSaid.class.getDeclaredFields()) {
            if (!Modifier.isPrivate(field.getModifiers())) {
                constants.add(field.getName());
            }
        }
        T.due("the face's constants " + constants,
            constants.equals(Set.of("NONE", "UNKNOWN", "OUTSIDE", "STATE", "FULL")) ? 1 : 0, 1);
        T.due("public constructors", AsWasSaid.class.getConstructors().length, 1);
        T.due("constructors", AsWasSaid.class.getDeclaredConstructors().length, 1);
        T.due("public and final", AsWasSaid.class.getModifiers(), Modifier.PUBLIC | Modifier.FINAL);
    }

    private static void members(Class<?> of) {
        int fields = 0;
        for (Field field : of.getDeclaredFields()) {
            boolean isStatic = Modifier.isStatic(field.getModifiers());
            fields += isStatic ? 0 : 1;
            T.due(field + " is final if static", isStatic && !Modifier.isFinal(field.getModifiers()) ? 1 : 0, 0);
        }
        T.due(of + " has at most twenty fields", fields <= 20 ? 1 : 0, 1);
        Set<String> names = new TreeSet<>();
        Arrays.stream(AsWasSaid.class.getMethods()).forEach(method -> names.add(method.getName()));
        for (Method method : of.getDeclaredMethods()) {
            boolean bears = of != AsWasSaid.class || Modifier.isPrivate(method.getModifiers());
            T.due(method + " bears a public name", bears && names.contains(method.getName()) ? 1 : 0, 0);
            T.due(method + " has at most seven parameters", method.getParameterCount() <= 7 ? 1 : 0, 1);
        }
    }

    private static void source(List<String> lines) {
        String method = "";
        int length = 0;
        for (String line : lines) {
            String code = line.replaceAll("/\\*\\*.*|//.*", "");
            for (String word : RULED_OUT) {
                T.due("the source has " + word + ": " + line, code.contains(word) ? 1 : 0, 0);
            }
            length++;
            if (code.matches("( {4}| {8})(?!for |if |while |switch |\\})\\S.*\\(.*\\) \\{")) {
                method = code;
                length = 1;
            }
            T.due("a method is longer than sixty lines: " + method, length > 60 ? 1 : 0, 0);
            boolean isConstructor = method.matches(" *(public )?[A-Z]\\w+\\(\\) \\{");
            T.due("outside a constructor: " + line, code.contains("new ") && !isConstructor ? 1 : 0, 0);
        }
    }

    /** Methods of one name are taken together: the calls go no deeper than what comes out here. */
    private static void calls(List<String> lines) {
        Map<String, String> bodies = new TreeMap<>();
        String method = null;
        for (String line : lines) {
            String code = line.replaceAll("/\\*\\*.*|//.*", "");
            Matcher head = METHOD.matcher(code);
            if (head.find()) {
                method = head.group(1);
                bodies.putIfAbsent(method, "");
            } else if (method != null) {
                bodies.merge(method, code + "\n", String::concat);
            }
        }
        T.due("methods were found", bodies.size() > 60 ? 1 : 0, 1);
        Set<String> face = new TreeSet<>();
        Arrays.stream(AsWasSaid.class.getDeclaredMethods()).forEach(one -> face.add(one.getName()));
        T.due("all methods of the class were found", bodies.keySet().containsAll(face) ? 1 : 0, 1);
        for (String name : bodies.keySet()) {
            T.due(name + "() goes at most eight calls deep", depth(name, bodies, 0) <= 8 ? 1 : 0, 1);
        }
    }

    private static int depth(String name, Map<String, String> bodies, int above) {
        int deepest = 0;
        for (String called : bodies.keySet()) {
            boolean calls = Pattern.compile("\\b" + called + "\\(").matcher(bodies.get(name)).find();
            // who calls himself would go on without end: nine is too deep already
            deepest = calls && above < 9 ? Math.max(deepest, depth(called, bodies, above + 1)) : deepest;
        }
        return 1 + deepest;
    }

    /** No call throws, whatever the numbers, without a saying and with the longest one. */
    private static void everyCallEverywhere() throws Exception {
        int[] numbers = {Integer.MIN_VALUE, -104, -1, 0, 1, 2, 3, 4, 5, 6, 9, 60, 63, 64, 97, 639, 640, Integer.MAX_VALUE};
        AsWasSaid[] objects = {new AsWasSaid(), Due.said("a"), Due.said(Due.said("a+b+c"), "na+nb+nc+nd")};
        for (AsWasSaid x : objects) {
            for (Method method : AsWasSaid.class.getDeclaredMethods()) {
                if (Modifier.isPublic(method.getModifiers())) {
                    callWithAll(x, method, new Object[method.getParameterCount()], 0, numbers);
                }
            }
        }
    }

    private static void callWithAll(AsWasSaid x, Method method, Object[] args, int at, int[] numbers) throws Exception {
        if (at == args.length) {
            boolean threw = false;
            try {
                method.invoke(x, args);
            } catch (java.lang.reflect.InvocationTargetException thrown) {
                threw = true;
            }
            T.due(method.getName() + Arrays.toString(args) + " threw", threw ? 1 : 0, 0);
            return;
        }
        for (int number : numbers) {
            args[at] = number;
            callWithAll(x, method, args, at + 1, numbers);
        }
    }
}
