import java.lang.reflect.Constructor;
import java.lang.reflect.Field;
import java.lang.reflect.Method;
import java.lang.reflect.Modifier;
import java.nio.file.Files;
import java.nio.file.Path;
import java.util.ArrayList;
import java.util.Arrays;
import java.util.Collections;
import java.util.List;
import java.util.Set;
import java.util.TreeSet;
import java.util.regex.Matcher;
import java.util.regex.Pattern;

/** The document's face by reflection, and those rules of LANGUAGE.md that a plain look at the source can tell. */
public final class LanguageTest {
    private static final Check CHECK = new Check();

    public static void main(String[] args) throws Exception {
        face();
        source();
        methods();
        CHECK.finish();
    }

    /** Rule 1: what the document's block of Java shows, and nothing else that is not private. */
    private static void face() throws Exception {
        CHECK.part("the public face");
        String doc = Files.readString(Path.of("..", "shared", "DOC.md"));
        String block = doc.substring(doc.indexOf("```java"), doc.indexOf("```", doc.indexOf("```java") + 3));
        Set<String> due = new TreeSet<>();
        Matcher m = Pattern.compile("public (?:static final )?(\\w+ )?(\\w+)(\\((.*?)\\))?(?: = -1)?;").matcher(block);
        while (m.find()) {
            String types = m.group(4) == null ? "" : m.group(4).replaceAll("(\\w+) \\w+", "$1");
            due.add((m.group(1) == null ? "" : m.group(1)) + m.group(2) + (m.group(3) == null ? "" : "(" + types.replace(" ", "") + ")"));
        }
        Set<String> got = new TreeSet<>();
        for (Method method : LetterQuay.class.getDeclaredMethods()) {
            if (!Modifier.isPrivate(method.getModifiers()) && !method.isSynthetic()) {
                CHECK.so(method + " is public", Modifier.isPublic(method.getModifiers()));
                got.add(method.getReturnType().getSimpleName() + " " + method.getName() + types(method.getParameterTypes()));
            }
        }
        for (Constructor<?> made : LetterQuay.class.getDeclaredConstructors()) {
            got.add("LetterQuay" + types(made.getParameterTypes()));
        }
        for (Field field : LetterQuay.class.getDeclaredFields()) {
            if (!Modifier.isPrivate(field.getModifiers())) {
                got.add(field.getType().getSimpleName() + " " + field.getName());
            }
            if (Modifier.isStatic(field.getModifiers())) {
                CHECK.so(field + " is final", Modifier.isFinal(field.getModifiers()));
            }
        }
        CHECK.due("how many are in the face", due.size(), 44);
        CHECK.so("due " + due + " got " + got, due.equals(got));
        CHECK.so("the class is final", Modifier.isFinal(LetterQuay.class.getModifiers()));
        for (Class<?> inside : LetterQuay.class.getDeclaredClasses()) {
            CHECK.so(inside + " is static", Modifier.isStatic(inside.getModifiers()));
            for (Field field : inside.getDeclaredFields()) {
                if (Modifier.isStatic(field.getModifiers())) {
                    CHECK.so(field + " is final", Modifier.isFinal(field.getModifiers()));
                }
            }
        }
        CHECK.so("at most twelve classes", LetterQuay.class.getDeclaredClasses().length <= 11);
    }

    private static String types(Class<?>[] types) {
        List<String> names = new ArrayList<>();
        for (Class<?> type : types) {
            names.add(type.getSimpleName());
        }
        return "(" + String.join(",", names) + ")";
    }

    private static String bare() throws Exception {
        String source = Files.readString(Path.of("src", "main", "java", "LetterQuay.java"));
        return source.replaceAll("(?s)/\\*.*?\\*/", "").replaceAll("//[^\n]*", "").replaceAll("\"[^\"]*\"", "\"\"");
    }

    /** Rules 2 to 6 and 13. */
    private static void source() throws Exception {
        CHECK.part("LANGUAGE.md");
        String source = bare();
        String[] banned = {"\\bthrow\\b", "\\btry\\b", "\\bcatch\\b", "\\bsynchronized\\b", "\\bassert\\b", "->", "::", "@",
            "\\bdouble\\b", "\\bfloat\\b", "\\bstatic \\{", "\\bpackage\\b", "Exact\\b", "\\bthis\\b", "\\bprotected\\b",
            "\\[\\]\\[\\]\\[\\]", "\\bvar\\b", "\\bObject\\b", "\\bexit\\b", "\\bThread\\b", "\\bhashCode\\b", "\\btoString\\b"};
        for (String word : banned) {
            CHECK.so("no " + word, !Pattern.compile(word).matcher(source).find());
        }
        Matcher imports = Pattern.compile("import ([\\w.]+);").matcher(source);
        while (imports.find()) {
            CHECK.so(imports.group(), imports.group(1).equals("java.util.Arrays"));
        }
        Set<String> library = new TreeSet<>(Arrays.asList("Arrays.copyOf", "System.arraycopy", "Integer.bitCount", "Math.min", "Math.max"));
        Matcher used = Pattern.compile("\\b(Arrays|System|Integer|Long|Math|String|StringBuilder|List|ArrayList)\\.\\w+").matcher(source);
        while (used.find()) {
            CHECK.so(used.group(), library.contains(used.group()));
        }
    }

    /** Rules 1 and 11. */
    private static void methods() throws Exception {
        CHECK.part("methods");
        Set<String> shown = new TreeSet<>();
        for (Method method : LetterQuay.class.getDeclaredMethods()) {
            if (Modifier.isPublic(method.getModifiers())) {
                shown.add(method.getName());
            }
        }
        List<Class<?>> all = new ArrayList<>(Collections.singleton(LetterQuay.class));
        all.addAll(Arrays.asList(LetterQuay.class.getDeclaredClasses()));
        for (Class<?> one : all) {
            int fields = 0;
            for (Field field : one.getDeclaredFields()) {
                fields += Modifier.isStatic(field.getModifiers()) ? 0 : 1;
            }
            CHECK.so(one + " has at most twenty fields", fields <= 20);
            for (Method method : one.getDeclaredMethods()) {
                CHECK.so(method + " has at most seven parameters", method.getParameterCount() <= 7);
                CHECK.so(method + " has a name of its own", Modifier.isPublic(method.getModifiers()) || !shown.contains(method.getName()));
            }
        }
        int start = 0;
        int number = 0;
        for (String line : bare().split("\n")) {
            number++;
            if (line.matches("( {4}| {8})[\\w\\[\\] ]+\\(.*\\) \\{")) {
                start = number;
            }
            if (line.matches("( {4}| {8})\\}") && start > 0) {
                CHECK.so("a method of at most sixty lines at " + start, number - start < 60);
                start = 0;
            }
        }
    }
}
