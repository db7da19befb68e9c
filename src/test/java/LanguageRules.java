import java.lang.reflect.Field;
import java.lang.reflect.InvocationTargetException;
import java.lang.reflect.Method;
import java.lang.reflect.Modifier;
import java.nio.charset.StandardCharsets;
import java.nio.file.Files;
import java.nio.file.Path;
import java.util.ArrayList;
import java.util.Arrays;
import java.util.Collections;
import java.util.HashMap;
import java.util.List;
import java.util.Map;
import java.util.Set;
import java.util.TreeSet;
import java.util.regex.Matcher;
import java.util.regex.Pattern;

/** What of ../shared/LANGUAGE.md can be seen in the program's text and in the class that is made of it. */
final class LanguageRules {
    /** Some of these the rules would allow; the program does without them, and a text search can't tell where they would be fine. */
    private static final String[] BANNED = {"\\bthrow\\b", "\\bthrows\\b", "\\btry\\b", "\\bcatch\\b", "\\bsynchronized\\b", "\\bassert\\b",
        "->", "::", "\\bimport\\b", "\\bpackage\\b", "\\bprotected\\b", "\\bnative\\b", "\\bvolatile\\b", "\\btransient\\b",
        "Exact\\b", "\\bSystem\\.(?!arraycopy\\b)", "\\bhashCode\\b", "\\bequals\\b", "\\btoString\\b", "\\bstatic\\s*\\{", "@", "\"",
        "\\bdouble\\b", "\\bfloat\\b", "\\bThread\\b", "\\bRandom\\b", "Math\\.(?!abs\\b|floorDiv\\b|floorMod\\b)", "\\bwhile\\b"};
    private static final String FACE = "int alike(int,int)|int as(int,int)|int ask(int,int)|int associate(int,int,int)|int axis(int,int)|int back(int,int)"
        + "|int cell(int,int)|int clear(int)|int copy(int,int,int,int,int)|int drop(int)|int greatest(int,int,int,int)|int index(int)"
        + "|int is(int,int)|int kind(int)|int list(int,int,int)|int many(int)|int norm(int)|int order(int)|int over(int,int,int,int,int)"
        + "|int part(int,int,int)|int plain(int,int)|int squares(int)|int status()|int sum(int,int,int)|int take(int,int,int)|int three(int)"
        + "|int times(int,int,int)|int trace(int)|int tray(int,int,int)|long number(int,int)|long set(int,int,long)"
        + "|long table(int,int,int,int)|long turn(int,int,int,int,int,int)";

    private LanguageRules() {
    }

    static void bannedWords(Due due) throws Exception {
        String text = program();
        for (String banned : BANNED) due.holds("the program has no " + banned, !Pattern.compile(banned).matcher(text).find());
        for (int i = 0; i < text.length(); i++) if (text.charAt(i) > 126) due.holds("the program's signs are plain ones", false);
    }

    private static String program() throws Exception {
        String whole = Files.readString(Path.of(System.getProperty("program")), StandardCharsets.UTF_8);
        return whole.replaceAll("(?s)/\\*.*?\\*/", "").replaceAll("//[^\n]*", "");
    }

    static void publicFace(Due due) {
        Set<String> made = new TreeSet<>();
        for (Method method : WholeTurns.class.getDeclaredMethods()) {
            if (Modifier.isPrivate(method.getModifiers()) || method.isSynthetic()) continue;
            due.holds("public: " + method, Modifier.isPublic(method.getModifiers()) && !Modifier.isStatic(method.getModifiers()));
            List<String> kinds = new ArrayList<>();
            for (Class<?> kind : method.getParameterTypes()) kinds.add(kind.getName());
            made.add(method.getReturnType() + " " + method.getName() + "(" + String.join(",", kinds) + ")");
        }
        Set<String> told = new TreeSet<>();
        Collections.addAll(told, FACE.split("\\|"));
        due.holds("the face is the document's, not " + made, made.equals(told));
        Set<String> constants = new TreeSet<>();
        for (Field field : WholeTurns.class.getDeclaredFields()) {
            if (!Modifier.isPrivate(field.getModifiers())) constants.add(field.toString());
        }
        due.holds("four constants, not " + constants, constants.size() == 4);
        due.holds("public final", WholeTurns.class.getModifiers() == (Modifier.PUBLIC | Modifier.FINAL));
    }

    static void innerClasses(Due due) {
        Class<?>[] inside = WholeTurns.class.getDeclaredClasses();
        due.holds("at most twelve classes", inside.length + 1 <= 12);
        List<Class<?>> all = new ArrayList<>(List.of(inside));
        for (Class<?> each : all) {
            due.holds(each + " is static and not public", Modifier.isStatic(each.getModifiers()) && !Modifier.isPublic(each.getModifiers()));
        }
        all.add(WholeTurns.class);
        Set<String> face = new TreeSet<>();
        for (Method method : WholeTurns.class.getDeclaredMethods()) if (Modifier.isPublic(method.getModifiers())) face.add(method.getName());
        for (Class<?> each : all) {
            int fields = 0;
            for (Field field : each.getDeclaredFields()) {
                if (!Modifier.isStatic(field.getModifiers())) fields++;
                else due.holds(field + " is final", Modifier.isFinal(field.getModifiers()));
            }
            due.holds(each + " has at most twenty fields", fields <= 20);
            for (Method method : each.getDeclaredMethods()) {
                due.holds(method + " has at most seven parameters", method.getParameterCount() <= 7);
                boolean own = each == WholeTurns.class && Modifier.isPublic(method.getModifiers());
                due.holds(method + " bears no name of the face", own || !face.contains(method.getName()));
            }
        }
    }

    /** What rule 4 leaves of the library, as far as the program needs it. */
    private static final Set<String> LIBRARY = Set.of("java/lang/Object.<init>()V", "java/lang/Math.abs(J)J", "java/lang/Math.floorDiv(JJ)J",
        "java/lang/Math.floorMod(JJ)J", "java/lang/System.arraycopy(Ljava/lang/Object;ILjava/lang/Object;II)V");
    private static final int DEEPEST = 8;

    private static Map<String, ClassFile.Body> bodies() throws Exception {
        Map<String, ClassFile.Body> bodies = new HashMap<>(ClassFile.bodies(WholeTurns.class));
        for (Class<?> inside : WholeTurns.class.getDeclaredClasses()) bodies.putAll(ClassFile.bodies(inside));
        return bodies;
    }

    static void onlyTheLibraryTold(Due due) throws Exception {
        Map<String, ClassFile.Body> bodies = bodies();
        for (String caller : bodies.keySet()) {
            for (String called : bodies.get(caller).calls) due.holds(caller + " may call " + called, bodies.containsKey(called) || LIBRARY.contains(called));
        }
    }

    static void nothingThrownNorCaught(Due due) throws Exception {
        Map<String, ClassFile.Body> bodies = bodies();
        for (String each : bodies.keySet()) {
            due.holds(each + " throws nothing", !bodies.get(each).throwing);
            due.holds(each + " catches nothing", !bodies.get(each).catching);
        }
    }

    /** No method comes to itself again, and at most eight stand open at once, the library's own one with them. */
    static void callsAtMostEightDeep(Due due) throws Exception {
        Map<String, ClassFile.Body> bodies = bodies();
        int deepest = 0;
        for (String each : bodies.keySet()) {
            int deep = deep(due, bodies, each, new ArrayList<>());
            due.holds("at most eight deep: " + each + ", not " + deep, deep <= DEEPEST);
            deepest = Math.max(deepest, deep);
        }
        due.holds("calls are seen at all", deepest > 1);
    }

    private static int deep(Due due, Map<String, ClassFile.Body> bodies, String method, List<String> open) {
        due.holds("does not come to itself again: " + method, !open.contains(method));
        if (!bodies.containsKey(method) || open.contains(method)) return 1;
        open.add(method);
        int deepest = 0;
        for (String called : bodies.get(method).calls) deepest = Math.max(deepest, deep(due, bodies, called, open));
        open.remove(method);
        return deepest + 1;
    }

    private static final int[] WILD = {Integer.MIN_VALUE, -1000001, -1, 0, 1, 2, 3, 5, 7, 8, 19, 20, 99, 100, 101, 150, 151, 1001, 1000001, Integer.MAX_VALUE};

    /** No call ever throws: each number of each call in turn is a wild one, on a new object and on a full one. */
    static void noCallThrows(Due due) throws Exception {
        for (Method call : WholeTurns.class.getDeclaredMethods()) {
            if (!Modifier.isPublic(call.getModifiers())) continue;
            for (int fit = 0; fit < 5; fit++) {
                for (int at = 0; at < Math.max(1, call.getParameterCount()); at++) wildCalls(due, call, fit, at);
            }
        }
    }

    private static void wildCalls(Due due, Method call, int fit, int at) throws Exception {
        WholeTurns full = Bench.full(0);
        for (int wild : WILD) {
            Object[] numbers = new Object[call.getParameterCount()];
            for (int i = 0; i < numbers.length; i++) {
                int number = i == at ? wild : fit;
                if (call.getParameterTypes()[i] == long.class) numbers[i] = (long) number << 31;
                else numbers[i] = number;
            }
            for (WholeTurns x : new WholeTurns[] {new WholeTurns(), full}) {
                try {
                    call.invoke(x, numbers);
                } catch (InvocationTargetException e) {
                    due.holds(call.getName() + Arrays.toString(numbers) + " does not throw " + e.getCause(), false);
                }
            }
        }
    }

    /** A method begins at a row that ends with "{" and is indented as members are, and ends at "}" so indented. */
    static void shortMethods(Due due) throws Exception {
        String[] rows = program().split("\n");
        Pattern begin = Pattern.compile("^(    |        )[^ ].*\\) \\{$");
        int from = -1;
        String indent = "";
        for (int row = 0; row < rows.length; row++) {
            Matcher matcher = begin.matcher(rows[row]);
            if (from < 0 && matcher.matches()) {
                from = row;
                indent = matcher.group(1);
            } else if (from >= 0 && rows[row].equals(indent + "}")) {
                due.holds("at most sixty rows: " + rows[from].trim(), row - from < 60);
                from = -1;
            }
        }
    }
}
