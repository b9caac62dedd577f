import java.io.IOException;
import java.lang.reflect.Constructor;
import java.lang.reflect.Field;
import java.lang.reflect.Method;
import java.lang.reflect.Modifier;
import java.nio.file.Files;
import java.nio.file.Path;
import java.util.ArrayList;
import java.util.List;
import java.util.Map;
import java.util.Set;
import java.util.TreeMap;
import java.util.TreeSet;
import java.util.regex.Matcher;
import java.util.regex.Pattern;

/** What of LANGUAGE.md can be seen from outside: the face, the classes inside, words that may not stand. */
public final class LanguageTest {
    private static final Path SOURCE = Path.of("src/main/java/HalvedNames.java");
    private static final Path DOCUMENT = Path.of("../shared/DOC.md");
    private static final String[] BARRED = {
        "\\bthrow\\b", "\\bthrows\\b", "\\btry\\b", "\\bcatch\\b", "\\bsynchronized\\b", "\\bassert\\b", "\\bimport\\b",
        "\\bpackage\\b", "\\bprotected\\b", "\\bvar\\b", "->", "::", "Exact\\b", "\\bSystem\\.(?!arraycopy\\b)",
        "\\bThread\\b", "\\bRandom\\b", "\\bequals\\(", "\\bhashCode\\b", "\\btoString\\b", "\\bwhile \\(true\\)",
        "\\bfor \\(;;\\)", "\\bObject\\b", "\\[\\]\\[\\]\\[\\]", "static \\{", "@",
    };

    private static final Set<String> LIBRARY = Set.of("Math.max", "Math.min", "Math.abs", "Math.floorDiv",
        "Math.floorMod", "Integer.bitCount", "Integer.compare", "Long.bitCount", "Long.compare", "System.arraycopy",
        "Arrays.fill", "Arrays.copyOf", "Arrays.copyOfRange");
    private static final Pattern METHOD = Pattern.compile("\n    (?:    )?(?:(?:public|private|static|final) )*"
        + "(?:[A-Z]\\w*|int|long|boolean|void)(?:\\[\\])* (\\w+)\\([^)]*\\) \\{");

    private static int wrong;

    public static void main(String[] args) throws IOException {
        String code = Files.readString(SOURCE).replaceAll("(?s)/\\*.*?\\*/", "").replaceAll("//[^\n]*", "");
        barredWords(code);
        library(code);
        callsInCalls(code);
        Set<String> face = faceOfDocument();
        check(face.equals(faceOfClass()), "the face is not the document's: " + faceOfClass());
        check(HalvedNames.NONE == -1, "NONE is " + HalvedNames.NONE);
        Set<String> names = new TreeSet<>();
        for (Method m : HalvedNames.class.getDeclaredMethods()) {
            if (Modifier.isPublic(m.getModifiers())) {
                names.add(m.getName());
            }
        }
        members(HalvedNames.class, names);
        int classes = 1;
        for (Class<?> inside : HalvedNames.class.getDeclaredClasses()) {
            classes++;
            int m = inside.getModifiers();
            check(Modifier.isStatic(m), inside + " is not static");
            check(!Modifier.isPublic(m) && !Modifier.isProtected(m), inside + " is seen from outside");
            members(inside, names);
        }
        check(classes <= 12, "there are " + classes + " classes");
        System.out.println("LanguageTest: " + (wrong == 0 ? "all rules asked are kept" : wrong + " rules are broken"));
        if (wrong > 0) {
            System.exit(1);
        }
    }

    private static void check(boolean holds, String what) {
        if (!holds) {
            wrong++;
            System.out.println(what);
        }
    }

    private static void barredWords(String code) {
        for (String barred : BARRED) {
            Matcher m = Pattern.compile(barred).matcher(code);
            check(!m.find(), "the source has " + barred);
        }
        check(code.chars().allMatch(c -> c == '\n' || c >= ' ' && c < 127), "the source has strange signs");
        for (String method : code.split("\n    (?:    )?}\n")) {
            check(method.lines().count() <= 70, "a method is long: " + method.strip().lines().findFirst().orElse(""));
        }
    }

    private static void library(String code) {
        Matcher m = Pattern.compile("\\b(Math|Integer|Long|Arrays|System)\\.(\\w+)").matcher(code);
        while (m.find()) {
            check(LIBRARY.contains(m.group(1) + "." + m.group(2)), "the library has no " + m.group() + " here");
        }
        check(!Pattern.compile("\"\\s*\\+|\\+\\s*\"").matcher(code).find(), "texts are joined by +");
        check(!Pattern.compile("\\bwhile \\((true|1)").matcher(code).find(), "a loop has no end");
    }

    /**
     * By names alone, so two methods of one name count as one: none calls itself, they go eight deep at most, and
     * none makes an object, so that all calls of a run have room.
     */
    private static void callsInCalls(String code) {
        String bare = code.replaceAll("\"[^\"\n]*\"|'.'", "0").replaceAll("\\bword\\.\\w+\\(", "(");
        Map<String, StringBuilder> bodies = new TreeMap<>();
        Matcher m = METHOD.matcher(bare);
        while (m.find()) {
            int open = 1;
            int i = m.end();
            for (; open > 0 && i < bare.length(); i++) {
                open += bare.charAt(i) == '{' ? 1 : bare.charAt(i) == '}' ? -1 : 0;
            }
            bodies.computeIfAbsent(m.group(1), name -> new StringBuilder()).append(bare, m.end(), i);
        }
        check(bodies.size() > 66, "there are " + bodies.size() + " methods");
        for (String name : bodies.keySet()) {
            check(!Pattern.compile("\\bnew\\b").matcher(bodies.get(name)).find(), name + " makes an object");
            int deep = depth(name, bodies, new ArrayList<>());
            check(deep <= 8, name + " goes " + deep + " deep");
        }
    }

    private static int depth(String name, Map<String, StringBuilder> bodies, List<String> above) {
        if (above.contains(name)) {
            return 99;
        }
        above.add(name);
        int deepest = 0;
        Matcher m = Pattern.compile("\\b(\\w+)\\(").matcher(bodies.get(name));
        Set<String> seen = new TreeSet<>();
        while (m.find()) {
            if (bodies.containsKey(m.group(1)) && seen.add(m.group(1))) {
                deepest = Math.max(deepest, depth(m.group(1), bodies, above));
            }
        }
        above.remove(name);
        return deepest + 1;
    }

    /** Numbers, rows of numbers, texts and own classes, and rows of these. */
    private static boolean isAllowed(Class<?> type) {
        Class<?> of = type.isArray() ? type.getComponentType() : type;
        boolean isOwn = of == HalvedNames.class || of.getDeclaringClass() == HalvedNames.class;
        return isOwn || of == String.class || of.isPrimitive() || of.isArray() && of.getComponentType().isPrimitive();
    }

    /** Each public line of the document's face as reflection would tell it. */
    private static Set<String> faceOfDocument() throws IOException {
        Set<String> face = new TreeSet<>();
        String text = Files.readString(DOCUMENT);
        String part = text.substring(text.indexOf("```java"), text.indexOf("## Terms"));
        Matcher m = Pattern.compile("public (int|long) (\\w+)\\(([^)]*)\\);").matcher(part);
        while (m.find()) {
            String types = m.group(3).replaceAll("(int|long) \\w+", "$1").replace(" ", "");
            face.add(m.group(1) + " " + m.group(2) + "(" + types + ")");
        }
        return face;
    }

    private static Set<String> faceOfClass() {
        Set<String> face = new TreeSet<>();
        for (Method m : HalvedNames.class.getDeclaredMethods()) {
            if (Modifier.isPublic(m.getModifiers())) {
                StringBuilder types = new StringBuilder();
                for (Class<?> type : m.getParameterTypes()) {
                    types.append(types.length() == 0 ? "" : ",").append(type.getName());
                }
                face.add(m.getReturnType().getName() + " " + m.getName() + "(" + types + ")");
            }
        }
        return face;
    }

    private static void members(Class<?> where, Set<String> publicNames) {
        boolean isFace = where == HalvedNames.class;
        for (Method m : where.getDeclaredMethods()) {
            boolean isPublic = Modifier.isPublic(m.getModifiers());
            check(m.getParameterCount() <= 7, m + " takes too much");
            check(isAllowed(m.getReturnType()), m + " answers a type that may not be");
            for (Class<?> type : m.getParameterTypes()) {
                check(isAllowed(type), m + " takes a type that may not be");
            }
            check(isFace && isPublic || !publicNames.contains(m.getName()), m + " bears a public name");
            check(!isFace || isPublic || Modifier.isPrivate(m.getModifiers()), m + " is seen from outside");
        }
        int fields = 0;
        for (Field f : where.getDeclaredFields()) {
            int m = f.getModifiers();
            check(!Modifier.isStatic(m) || Modifier.isFinal(m), f + " is static and changes");
            check(isAllowed(f.getType()), f + " is of a type that may not be");
            check(!isFace || Modifier.isPrivate(m) || f.getName().equals("NONE"), f + " is seen from outside");
            fields += Modifier.isStatic(m) ? 0 : 1;
        }
        check(fields <= 20, where + " has " + fields + " fields");
        Constructor<?>[] made = where.getDeclaredConstructors();
        check(!isFace || made.length == 1 && made[0].getParameterCount() == 0, "there are other constructors");
        check(!isFace || Modifier.isFinal(where.getModifiers()), "the class is not final");
    }
}
