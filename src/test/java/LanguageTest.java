import java.io.IOException;
import java.lang.reflect.Constructor;
import java.lang.reflect.Field;
import java.lang.reflect.Method;
import java.lang.reflect.Modifier;
import java.nio.file.Files;
import java.nio.file.Path;
import java.util.Set;
import java.util.TreeSet;
import java.util.regex.Matcher;
import java.util.regex.Pattern;

/** What of LANGUAGE.md can be seen from outside: the face, the classes inside, words that may not stand. */
public final class LanguageTest {
    private static final Path SOURCE = Path.of("src/main/java/HalvedNames.java");
    private static final Path DOCUMENT = Path.of("../shared/DOC.md");
    private static final String[] BARRED = {
        "\\bthrow\\b", "\\bthrows\\b", "\\btry\\b", "\\bcatch\\b", "\\bsynchronized\\b", "\\bassert\\b", "\\bimport\\b",
        "\\bpackage\\b", "\\bprotected\\b", "\\bvar\\b", "->", "::", "Exact\\b", "\\bSystem\\.(?!arraycopy\\b)",
        "\\bThread\\b", "\\bRandom\\b", "\\bequals\\(", "\\bhashCode\\b", "\\btoString\\b", "\\bwhile \\(true\\)",
        "\\bfor \\(;;\\)", "\\bObject\\b", "\\[\\]\\[\\]\\[\\]", "static \\{", "@",
    };

    private static int wrong;

    public static void main(String[] args) throws IOException {
        barredWords();
        Set<String> face = faceOfDocument();
        check(face.equals(faceOfClass()), "the face is not the document's: " + faceOfClass());
        Set<String> names = new TreeSet<>();
        for (Method m : HalvedNames.class.getDeclaredMethods()) {
            if (Modifier.isPublic(m.getModifiers())) {
                names.add(m.getName());
            }
        }
        members(HalvedNames.class, names);
        int classes = 1;
        for (Class<?> inside : HalvedNames.class.getDeclaredClasses()) {
            classes++;
            int m = inside.getModifiers();
            check(Modifier.isStatic(m), inside + " is not static");
            check(!Modifier.isPublic(m) && !Modifier.isProtected(m), inside + " is seen from outside");
            members(inside, names);
        }
        check(classes <= 12, "there are " + classes + " classes");
        System.out.println("LanguageTest: " + (wrong == 0 ? "all rules asked are kept" : wrong + " rules are broken"));
        if (wrong > 0) {
            System.exit(1);
        }
    }

    private static void check(boolean holds, String what) {
        if (!holds) {
            wrong++;
            System.out.println(what);
        }
    }

    private static void barredWords() throws IOException {
        String code = Files.readString(SOURCE).replaceAll("(?s)/\\*.*?\\*/", "").replaceAll("//[^\n]*", "");
        for (String barred : BARRED) {
            Matcher m = Pattern.compile(barred).matcher(code);
            check(!m.find(), "the source has " + barred);
        }
        check(code.chars().allMatch(c -> c == '\n' || c >= ' ' && c < 127), "the source has strange signs");
        for (String method : code.split("\n    (?:    )?}\n")) {
            check(method.lines().count() <= 70, "a method is long: " + method.strip().lines().findFirst().orElse(""));
        }
    }

    /** Each public line of the document's face as reflection would tell it. */
    private static Set<String> faceOfDocument() throws IOException {
        Set<String> face = new TreeSet<>();
        String text = Files.readString(DOCUMENT);
        String part = text.substring(text.indexOf("```java"), text.indexOf("## Terms"));
        Matcher m = Pattern.compile("public (int|long) (\\w+)\\(([^)]*)\\);").matcher(part);
        while (m.find()) {
            String types = m.group(3).replaceAll("(int|long) \\w+", "$1").replace(" ", "");
            face.add(m.group(1) + " " + m.group(2) + "(" + types + ")");
        }
        return face;
    }

    private static Set<String> faceOfClass() {
        Set<String> face = new TreeSet<>();
        for (Method m : HalvedNames.class.getDeclaredMethods()) {
            if (Modifier.isPublic(m.getModifiers())) {
                StringBuilder types = new StringBuilder();
                for (Class<?> type : m.getParameterTypes()) {
                    types.append(types.length() == 0 ? "" : ",").append(type.getName());
                }
                face.add(m.getReturnType().getName() + " " + m.getName() + "(" + types + ")");
            }
        }
        return face;
    }

    private static void members(Class<?> where, Set<String> publicNames) {
        boolean isFace = where == HalvedNames.class;
        for (Method m : where.getDeclaredMethods()) {
            boolean isPublic = Modifier.isPublic(m.getModifiers());
            check(m.getParameterCount() <= 7, m + " takes too much");
            check(isFace && isPublic || !publicNames.contains(m.getName()), m + " bears a public name");
            check(!isFace || isPublic || Modifier.isPrivate(m.getModifiers()), m + " is seen from outside");
        }
        int fields = 0;
        for (Field f : where.getDeclaredFields()) {
            int m = f.getModifiers();
            check(!Modifier.isStatic(m) || Modifier.isFinal(m), f + " is static and changes");
            check(!isFace || Modifier.isPrivate(m) || f.getName().equals("NONE"), f + " is seen from outside");
            fields += Modifier.isStatic(m) ? 0 : 1;
        }
        check(fields <= 20, where + " has " + fields + " fields");
        Constructor<?>[] made = where.getDeclaredConstructors();
        check(!isFace || made.length == 1 && made[0].getParameterCount() == 0, "there are other constructors");
        check(!isFace || Modifier.isFinal(where.getModifiers()), "the class is not final");
    }
}
