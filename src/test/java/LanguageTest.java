import java.io.IOException;
import java.lang.reflect.Constructor;
import java.lang.reflect.Field;
import java.lang.reflect.Method;
import java.lang.reflect.Modifier;
import java.nio.file.Files;
import java.nio.file.Path;
import java.util.ArrayList;
import java.util.HashMap;
import java.util.HashSet;
import java.util.LinkedHashMap;
import java.util.List;
import java.util.Map;
import java.util.Set;
import java.util.TreeSet;
import java.util.regex.Matcher;
import java.util.regex.Pattern;

/** Holds HalfDays.java against the rules of LANGUAGE.md that can be seen from its text or by reflection. */
public final class LanguageTest {
    private static final String[] FACE = {
        "child(int,boolean,int,int,int)", "school()", "shut(int,int)", "comes(int,int,int)", "goes(int,int,int,int)",
        "isOn(int,int,int)", "failed(int,int)", "has(int,int,int,int)", "mark(int,int,int,int,int,int)", "appeal(int,int,int)",
        "tells(int,int,int,int,int)", "sees(int,int,int,int,int)", "feed(int,int,int,int,int)", "end(int)", "act(int)", "fault()",
        "force(int,int,int)", "rate(int,int,int,int,int)", "dip(int,int,int,int,int)", "due(int,int,int,int)", "take(int,int,int)",
        "stands(int,int,int)", "pay(int,int,int)", "fine(int,int,int,int)", "off(int,int,int)", "rolls(int,int,int)",
        "seen(int,int,int)", "record(int)", "missing(int,int)", "join(int)", "joined(int)", "judge(int,int)",
        "cannot(int,int,int,int)", "visit(int,int,int)", "round(int,int,int,int)", "dips(int,int,int,int)", "draw(int,int,int)",
        "helped(int)", "beside(int,int)", "seal(int)", "alter(int,int)", "found(int)", "image(int)", "back(int)", "count(int)",
        "status()"};
    private static final Pattern METHOD = Pattern.compile("^( {4}| {8})(?:[\\w\\[\\]]+ )*(\\w+)\\(([^)]*)\\) \\{$", Pattern.MULTILINE);

    public static void main(String[] args) throws IOException {
        Check check = new Check("LanguageTest");
        face(check);
        String source = Files.readString(Path.of("src/main/java/HalfDays.java"));
        String code = source.replaceAll("(?s)/\\*.*?\\*/", "").replaceAll("//[^\n]*", "").replaceAll("'.'", "0");
        words(check, source, code);
        Map<String, String> bodies = methods(check, code);
        depth(check, bodies);
        check.close();
    }

    private static void face(Check check) {
        Set<String> want = new TreeSet<>(List.of(FACE));
        Set<String> got = new TreeSet<>();
        Set<String> hidden = new HashSet<>();
        for (Method m : HalfDays.class.getDeclaredMethods()) {
            StringBuilder s = new StringBuilder(m.getName()).append('(');
            for (Class<?> p : m.getParameterTypes()) {
                s.append(s.charAt(s.length() - 1) == '(' ? "" : ",").append(p.getName());
            }
            if (Modifier.isPublic(m.getModifiers())) {
                got.add(s.append(')').toString());
                check.due(m.getName() + " answers an int", m.getReturnType() == int.class ? 1 : 0, 1);
                check.due(m.getName() + " is no static", Modifier.isStatic(m.getModifiers()) ? 1 : 0, 0);
            } else if (!m.isSynthetic()) {
                hidden.add(m.getName());
                check.due(m.getName() + " is private", Modifier.isPrivate(m.getModifiers()) ? 1 : 0, 1);
            }
        }
        check.due("the face " + got + " for " + want, got.equals(want) ? 1 : 0, 1);
        for (Class<?> c : HalfDays.class.getDeclaredClasses()) {
            check.due(c.getName() + " is static", Modifier.isStatic(c.getModifiers()) ? 1 : 0, 1);
            for (Method m : c.getDeclaredMethods()) {
                hidden.add(m.getName());
            }
            check.due(c.getName() + " has some twenty fields", instanceFields(c) <= 20 ? 1 : 0, 1);
        }
        for (String name : hidden) {
            check.due(name + " bears no public name", got.stream().anyMatch(f -> f.startsWith(name + "(")) ? 1 : 0, 0);
        }
        check.due("classes", HalfDays.class.getDeclaredClasses().length <= 11 ? 1 : 0, 1);
        check.due("the class is public and final", HalfDays.class.getModifiers(), Modifier.PUBLIC | Modifier.FINAL);
        Constructor<?>[] made = HalfDays.class.getDeclaredConstructors();
        check.due("constructors", made.length, 1);
        check.due("a constructor without parameters", made[0].getParameterCount(), 0);
        for (Field f : HalfDays.class.getDeclaredFields()) {
            boolean isFace = f.getName().equals("NONE");
            check.due(f.getName() + " is private", Modifier.isPrivate(f.getModifiers()) ? 0 : 1, isFace ? 1 : 0);
            if (Modifier.isStatic(f.getModifiers())) {
                check.due(f.getName() + " is final", Modifier.isFinal(f.getModifiers()) ? 1 : 0, 1);
            }
        }
    }

    private static int instanceFields(Class<?> c) {
        int many = 0;
        for (Field f : c.getDeclaredFields()) {
            many += Modifier.isStatic(f.getModifiers()) ? 0 : 1;
        }
        return many;
    }

    private static void words(Check check, String source, String code) {
        String[] never = {"throw", "throws", "try", "catch", "synchronized", "assert", "yield", "var", "double", "float", "transient",
            "volatile", "native", "String", "StringBuilder", "Object", "hashCode", "equals", "toString", "values", "random", "nanoTime",
            "currentTimeMillis", "Thread", "goto", "sealed", "interface", "abstract", "extends", "implements", "super", "default ->"};
        for (String word : never) {
            check.due("no " + word, Pattern.compile("\\b" + word + "\\b").matcher(code).find() ? 1 : 0, 0);
        }
        for (String sign : new String[] {"->", "::", "@", "\"", "Exact("}) {
            check.due("no " + sign, code.contains(sign) ? 1 : 0, 0);
        }
        Matcher imports = Pattern.compile("^import .*;$", Pattern.MULTILINE).matcher(code);
        int many = 0;
        while (imports.find()) {
            many++;
            check.due(imports.group(), imports.group().equals("import java.util.Arrays;") ? 1 : 0, 1);
        }
        check.due("imports", many, 1);
        Matcher library = Pattern.compile("\\b(System|Arrays|Math|Integer|Long)\\.(\\w+)").matcher(code);
        Set<String> fine = Set.of("System.arraycopy", "Arrays.copyOf", "Arrays.fill", "Math.max", "Math.min", "Math.abs", "Integer.bitCount");
        while (library.find()) {
            check.due(library.group(), fine.contains(library.group()) ? 1 : 0, 1);
        }
        for (int i = 0; i < source.length(); i++) {
            if (source.charAt(i) > 126) {
                check.due("sign " + (int) source.charAt(i), 1, 0);
            }
        }
    }

    /** Of each method its body; names that several classes have are taken together. */
    private static Map<String, String> methods(Check check, String code) {
        Map<String, String> bodies = new LinkedHashMap<>();
        Matcher m = METHOD.matcher(code);
        while (m.find()) {
            int close = code.indexOf("\n" + m.group(1) + "}\n", m.end() - 1);
            String body = close < 0 ? "" : code.substring(m.end(), close);
            bodies.merge(m.group(2), body, String::concat);
            check.due(m.group(2) + " has few parameters", m.group(3).isEmpty() || m.group(3).split(",").length <= 7 ? 1 : 0, 1);
            check.due(m.group(2) + " is short", body.lines().count() <= 60 ? 1 : 0, 1);
        }
        check.due("methods found", bodies.size() > 120 ? 1 : 0, 1);
        return bodies;
    }

    private static void depth(Check check, Map<String, String> bodies) {
        Map<String, Set<String>> calls = new HashMap<>();
        for (Map.Entry<String, String> e : bodies.entrySet()) {
            Set<String> out = new TreeSet<>();
            Matcher m = Pattern.compile("(\\w+)\\(").matcher(e.getValue());
            while (m.find()) {
                if (bodies.containsKey(m.group(1)) && !m.group(1).equals(e.getKey())) {
                    out.add(m.group(1));
                }
            }
            calls.put(e.getKey(), out);
        }
        for (String name : bodies.keySet()) {
            List<String> path = longest(name, calls, new ArrayList<>());
            check.due(path + " goes at most eight deep", path.size() <= 8 ? 1 : 0, 1);
        }
    }

    /** The longest row of calls in which no method stands twice. */
    private static List<String> longest(String name, Map<String, Set<String>> calls, List<String> open) {
        List<String> best = new ArrayList<>();
        open.add(name);
        for (String next : calls.get(name)) {
            if (!open.contains(next)) {
                List<String> way = longest(next, calls, open);
                best = way.size() > best.size() ? way : best;
            }
        }
        open.remove(open.size() - 1);
        best.add(0, name);
        return best;
    }
}
