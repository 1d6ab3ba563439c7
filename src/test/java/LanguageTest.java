import java.io.IOException;
import java.lang.reflect.Field;
import java.lang.reflect.Member;
import java.lang.reflect.Method;
import java.lang.reflect.Modifier;
import java.nio.charset.StandardCharsets;
import java.nio.file.Files;
import java.nio.file.Path;
import java.util.ArrayList;
import java.util.LinkedHashMap;
import java.util.List;
import java.util.Map;
import java.util.Set;
import java.util.TreeSet;
import java.util.regex.Matcher;
import java.util.regex.Pattern;

/** Rules of LANGUAGE.md that can be seen in the source or by reflection. */
public final class LanguageTest {
    private static final Check CHECK = new Check("LanguageTest");
    private static final Set<String> FACE = new TreeSet<>(List.of("feed(int,int,int,int,int)int", "back(int)int",
        "read()int", "place()int", "cell(int,int)int", "village(int,int)int", "want(int)int", "run(int)int",
        "flow(int,boolean)int", "pour(int,int)boolean", "dry(int,int)int", "dries(int,int)int",
        "salty(int,int,int)int", "effect(int,int,int,int)int", "saved(int,int,int,int)int", "fairest(int)int",
        "most(int,int)int", "firstOf(int)int", "share(int)int", "shut(int,int)int", "balance(int,int)int",
        "parts()int", "bridges()int", "worth(int,int,int)int", "blame(int,int,int)int", "tell(int,int,int)int",
        "forget()int", "off(int)int", "span(int,int)int", "rainSpan(int,int)int", "pairs(int,int,int,int)int",
        "test(int,int,int,int)int", "hidden(int,int)int", "hold(int)boolean", "restore(int)boolean",
        "count(int)int"));
    private static final Pattern METHOD =
        Pattern.compile("^ {4,8}(?:(?:public|private|static|final) )*[A-Za-z]+(?:\\[\\])? ([a-z][A-Za-z]*)\\((.*)\\) \\{$");

    public static void main(String[] args) throws IOException {
        String source = Files.readString(Path.of("src/main/java/WellVillages.java"), StandardCharsets.US_ASCII);
        face();
        nestedClasses();
        words(code(source));
        Map<String, List<String>> methods = methods(code(source));
        shapeOfMethods(methods);
        depthOfCalls(methods);
        CHECK.end();
    }

    private static void holds(String rule, boolean so) {
        CHECK.due(rule, so, true);
    }

    /** The source without comments and texts. */
    private static String code(String source) {
        return source.replaceAll("(?s)/\\*.*?\\*/", "").replaceAll("//[^\n]*", "").replaceAll("\"[^\"\n]*\"", "\"\"");
    }

    private static String signature(Method m) {
        StringBuilder s = new StringBuilder(m.getName()).append('(');
        for (Class<?> type : m.getParameterTypes()) {
            s.append(s.charAt(s.length() - 1) == '(' ? "" : ",").append(type.getSimpleName());
        }
        return s.append(')').append(m.getReturnType().getSimpleName()).toString();
    }

    private static void face() {
        Class<?> it = WellVillages.class;
        Set<String> found = new TreeSet<>();
        for (Method m : it.getDeclaredMethods()) {
            if (Modifier.isPublic(m.getModifiers())) {
                found.add(signature(m));
            } else {
                holds("rule 1: private is " + m.getName(), isPrivate(m));
            }
        }
        holds("rule 1: the face is " + FACE + ", found " + found, found.equals(FACE));
        holds("rule 1: public and final", it.getModifiers() == (Modifier.PUBLIC | Modifier.FINAL));
        holds("rule 1: one constructor", it.getDeclaredConstructors().length == 1
            && it.getConstructors().length == 1 && it.getConstructors()[0].getParameterCount() == 0);
        for (Field f : it.getDeclaredFields()) {
            boolean constant = f.getName().equals("NONE") && Modifier.isPublic(f.getModifiers());
            holds("rule 1: private is " + f.getName(), constant || isPrivate(f));
        }
    }

    private static boolean isPrivate(Member m) {
        return m.isSynthetic() || Modifier.isPrivate(m.getModifiers());
    }

    private static void nestedClasses() {
        Set<String> names = new TreeSet<>();
        FACE.forEach(s -> names.add(s.substring(0, s.indexOf('('))));
        List<Class<?>> all = new ArrayList<>(List.of(WellVillages.class.getDeclaredClasses()));
        holds("rule 11: at most twelve classes", all.size() < 12);
        for (Class<?> c : all) {
            holds("rule 1: static is " + c, Modifier.isStatic(c.getModifiers()));
            holds("rule 1: not public is " + c, !Modifier.isPublic(c.getModifiers()));
            for (Method m : c.getDeclaredMethods()) {
                holds("rule 1: no name of the face is " + m, !names.contains(m.getName()));
            }
        }
        all.add(WellVillages.class);
        for (Class<?> c : all) {
            int fields = 0;
            for (Field f : c.getDeclaredFields()) {
                if (Modifier.isStatic(f.getModifiers())) {
                    holds("rule 5: final is " + f, Modifier.isFinal(f.getModifiers()));
                } else {
                    fields++;
                }
            }
            holds("rule 11: some twenty fields of " + c + ": " + fields, fields <= 20);
        }
        for (Method m : WellVillages.class.getDeclaredMethods()) {
            holds("rule 1: one bearer of the name " + m.getName(),
                !isPrivate(m) || m.isSynthetic() || !names.contains(m.getName()));
        }
    }

    private static void words(String code) {
        for (String word : List.of("throw", "throws", "try", "catch", "finally", "synchronized", "assert", "equals",
            "hashCode", "toString", "Thread", "Object", "HashMap", "Map", "Exception", "Random", "currentTimeMillis",
            "nanoTime", "transient", "volatile", "native", "strictfp", "package", "var")) {
            holds("rules 4, 6 and 13: no " + word, !Pattern.compile("\\b" + word + "\\b").matcher(code).find());
        }
        for (String sign : List.of("->", "::", "@", "System.out", "Exact(", "static {")) {
            holds("rules 2 and 4: no " + sign, !code.contains(sign));
        }
        Matcher imports = Pattern.compile("import ([\\w.*]+);").matcher(code);
        while (imports.find()) {
            holds("rule 4: " + imports.group(), Set.of("java.util.Arrays").contains(imports.group(1)));
        }
        Matcher calls = Pattern.compile("\\b(Math|Integer|Long|Arrays|System|String)\\.(\\w+)").matcher(code);
        while (calls.find()) {
            holds("rule 4: " + calls.group(), Set.of("Math.min", "Math.max", "Math.floorMod", "Integer.bitCount", "Arrays.fill",
                "System.arraycopy").contains(calls.group()));
        }
    }

    private static Map<String, List<String>> methods(String code) {
        Map<String, List<String>> methods = new LinkedHashMap<>();
        List<String> body = null;
        for (String line : code.split("\n")) {
            Matcher m = METHOD.matcher(line);
            if (m.matches()) {
                body = new ArrayList<>();
                // two classes may have methods of one name: their calls are taken together
                methods.merge(m.group(1), body, (a, b) -> {
                    b.addAll(a);
                    return b;
                });
                int parameters = m.group(2).isEmpty() ? 0 : m.group(2).split(",").length;
                holds("rule 11: at most seven parameters of " + m.group(1), parameters <= 7);
            } else if (body != null) {
                body.add(line);
            }
        }
        return methods;
    }

    private static void shapeOfMethods(Map<String, List<String>> methods) {
        holds("all methods are found", methods.size() > FACE.size() + 40);
        for (Map.Entry<String, List<String>> m : methods.entrySet()) {
            holds("rule 11: some sixty lines of " + m.getKey(), m.getValue().size() <= 60);
        }
    }

    private static void depthOfCalls(Map<String, List<String>> methods) {
        for (String face : FACE) {
            String name = face.substring(0, face.indexOf('('));
            List<String> deepest = deepest(name, methods, new ArrayList<>());
            holds("rule 11: at most eight calls deep: " + deepest, deepest.size() <= 8);
        }
    }

    /** The longest chain of calls, those of the recursion over a law's nesting not counted. */
    private static List<String> deepest(String name, Map<String, List<String>> methods, List<String> open) {
        List<String> best = new ArrayList<>();
        for (String line : methods.get(name)) {
            Matcher calls = Pattern.compile("\\b([a-z]\\w*)\\(").matcher(line);
            while (calls.find()) {
                String called = calls.group(1);
                if (methods.containsKey(called) && !open.contains(called) && !called.equals(name)) {
                    List<String> inner = new ArrayList<>(open);
                    inner.add(name);
                    List<String> chain = deepest(called, methods, inner);
                    best = chain.size() > best.size() ? chain : best;
                }
            }
        }
        boolean recursion = Set.of("readSum", "readProduct", "readUnit", "readNested").contains(name);
        if (!recursion) {
            best.add(0, name);
        }
        return best;
    }
}
