import java.io.IOException;
import java.lang.reflect.Field;
import java.lang.reflect.Method;
import java.lang.reflect.Modifier;
import java.nio.file.Files;
import java.nio.file.Path;
import java.util.ArrayList;
import java.util.HashSet;
import java.util.LinkedHashMap;
import java.util.List;
import java.util.Map;
import java.util.Set;
import java.util.regex.Matcher;
import java.util.regex.Pattern;

/** The rules of LANGUAGE.md that can be read off the text of the class or its compiled form. */
public final class LanguageTest {
    private static final Check CHECK = new Check("LanguageTest");
    private static final Path SOURCE = Path.of("src/main/java/ClearedExchange.java");
    private static final String OUTER = "ClearedExchange";

    /** What the rules forbid, and what the class does without so that they need not be looked at further. */
    private static final String[] FORBIDDEN = {
        // 2, 3: no lambda, no method reference, no types but the listed ones
        "->", "::", "\\bimport\\b", "\\bpackage\\b", "\\bObject\\b", "\\bdouble\\b", "\\bfloat\\b", "\\bvar\\b",
        // 1: nothing protected; 6: no exceptions are promised, so none are thrown or caught
        "\\bprotected\\b", "\\bthrow\\b", "\\bthrows\\b", "\\btry\\b", "\\bcatch\\b", "\\bfinally\\b",
        "\\bsynchronized\\b", "\\bassert\\b", "\\bequals\\b", "\\bhashCode\\b", "\\btoString\\b",
        // 5: no static initialiser block
        "\\bstatic\\s*\\{",
        // 9: every loop has a counter; 13: no clock, no randomness, no files, no threads
        "\\bwhile\\b", "\\bdo\\b", "\\bSystem\\b", "\\bThread\\b", "\\bnative\\b", "\\bvolatile\\b",
    };
    private static final Set<String> LIBRARY = Set.of("Math.min", "Math.max", "Math.abs", "Integer.compare");
    private static final Set<String> NO_CALLS = Set.of("if", "for", "switch", "return", "new");

    /** For each method, as Class.name, its body. */
    private static final Map<String, String> BODIES = new LinkedHashMap<>();

    public static void main(String[] args) throws IOException {
        String text = Files.readString(SOURCE);
        charactersAreShort(text);
        String code = text.replaceAll("(?s)/\\*.*?\\*/", "").replaceAll("//[^\n]*", "");
        forbidden(code);
        library(code);
        List<Class<?>> classes = new ArrayList<>(List.of(ClearedExchange.class.getDeclaredClasses()));
        classes.add(ClearedExchange.class);
        CHECK.due("at most twelve classes (11)", classes.size() <= 12, true);
        Set<String> face = namesOfTheFace();
        for (Class<?> type : classes) {
            fields(type);
            methods(type, face);
        }
        bodies(code);
        lengths();
        depths();
        CHECK.end();
    }

    private static void charactersAreShort(String text) {
        CHECK.due("characters beyond 255 (3)", text.chars().filter(c -> c > 255).count(), 0);
    }

    private static void forbidden(String code) {
        for (String pattern : FORBIDDEN) {
            CHECK.due("the class has " + pattern, Pattern.compile(pattern).matcher(code).find(), false);
        }
    }

    private static void library(String code) {
        Matcher used = Pattern.compile("\\b(Math|Integer|Long|Arrays|String|List|ArrayList)\\b\\.?\\w*").matcher(code);
        while (used.find()) {
            CHECK.due(used.group() + " is listed (4)", LIBRARY.contains(used.group()), true);
        }
    }

    private static Set<String> namesOfTheFace() {
        Set<String> names = new HashSet<>();
        for (Method method : ClearedExchange.class.getDeclaredMethods()) {
            if (Modifier.isPublic(method.getModifiers())) {
                names.add(method.getName());
            }
        }
        return names;
    }

    private static void fields(Class<?> type) {
        int count = 0;
        for (Field field : type.getDeclaredFields()) {
            CHECK.due(field + " is private (1)", Modifier.isPrivate(field.getModifiers()), true);
            if (Modifier.isStatic(field.getModifiers())) {
                CHECK.due(field + " is a constant (5)", Modifier.isFinal(field.getModifiers()), true);
                CHECK.due(field + " is a number (5)", field.getType() == int.class, true);
            } else {
                count++;
            }
        }
        CHECK.due(type + " has at most twenty fields (11)", count <= 20, true);
    }

    private static void methods(Class<?> type, Set<String> face) {
        for (Method method : type.getDeclaredMethods()) {
            CHECK.due(method + " takes at most seven (11)", method.getParameterCount() <= 7, true);
            if (!Modifier.isPublic(method.getModifiers())) {
                CHECK.due(method + " is named as a public one (1)", face.contains(method.getName()), false);
            }
        }
    }

    /** Finds every method and constructor of the file by its heading, and cuts out its body. */
    private static void bodies(String code) {
        String heading = "\\bclass (\\w+) \\{|(?:public|private) [\\w\\[\\] ]*?(\\w+)\\([^;{)]*\\) \\{";
        Matcher found = Pattern.compile(heading).matcher(code);
        List<int[]> ends = new ArrayList<>();
        List<String> names = new ArrayList<>();
        while (found.find()) {
            while (!ends.isEmpty() && ends.get(ends.size() - 1)[0] < found.start()) {
                ends.remove(ends.size() - 1);
                names.remove(names.size() - 1);
            }
            int end = endOfBlock(code, found.end());
            if (found.group(1) != null) {
                ends.add(new int[] {end});
                names.add(found.group(1));
            } else {
                String name = names.get(names.size() - 1) + "." + found.group(2);
                CHECK.due(name + " is found once", BODIES.put(name, code.substring(found.end(), end)) == null, true);
            }
        }
        int declared = ClearedExchange.class.getDeclaredMethods().length;
        for (Class<?> type : ClearedExchange.class.getDeclaredClasses()) {
            declared += type.getDeclaredMethods().length;
        }
        long methods = BODIES.keySet().stream().filter(name -> !isConstructor(name)).count();
        CHECK.due("methods found by their headings", methods, declared);
    }

    private static boolean isConstructor(String name) {
        String[] parts = name.split("\\.");
        return parts[0].equals(parts[1]);
    }

    private static int endOfBlock(String code, int start) {
        int open = 1;
        int at = start;
        while (open > 0) {
            open += code.charAt(at) == '{' ? 1 : code.charAt(at) == '}' ? -1 : 0;
            at++;
        }
        return at;
    }

    private static void lengths() {
        for (Map.Entry<String, String> entry : BODIES.entrySet()) {
            CHECK.due(entry.getKey() + " is short (11)", entry.getValue().lines().count() <= 60, true);
        }
    }

    private static void depths() {
        for (String name : BODIES.keySet()) {
            CHECK.due(name + " goes at most eight deep and never to itself (8, 11)", depth(name, 0) <= 8, true);
        }
    }

    /** How deep the calls of a method go, itself counted; a method that comes back to itself goes beyond all. */
    private static int depth(String name, int above) {
        if (above > 50) {
            return above;
        }
        int deepest = 0;
        for (String called : callsOf(name)) {
            deepest = Math.max(deepest, depth(called, above + 1));
        }
        return deepest + 1;
    }

    private static Set<String> callsOf(String name) {
        String own = name.substring(0, name.indexOf('.'));
        Set<String> calls = new HashSet<>();
        Matcher call = Pattern.compile("(new |[\\w\\])]\\.)?\\b(\\w+)\\(").matcher(BODIES.get(name));
        while (call.find()) {
            String target = call.group(2);
            if (NO_CALLS.contains(target)) {
                continue;
            }
            if ("new ".equals(call.group(1))) {
                addIfThere(calls, target + "." + target);
            } else if (call.group(1) == null) {
                addIfThere(calls, (BODIES.containsKey(own + "." + target) ? own : OUTER) + "." + target);
            } else {
                for (Class<?> type : ClearedExchange.class.getDeclaredClasses()) {
                    addIfThere(calls, type.getSimpleName() + "." + target);
                }
            }
        }
        return calls;
    }

    private static void addIfThere(Set<String> calls, String name) {
        if (BODIES.containsKey(name)) {
            calls.add(name);
        }
    }
}
