import java.io.IOException;
import java.lang.reflect.Constructor;
import java.lang.reflect.Field;
import java.lang.reflect.Method;
import java.lang.reflect.Modifier;
import java.nio.file.Files;
import java.nio.file.Path;
import java.util.HashSet;
import java.util.Set;
import java.util.TreeSet;
import java.util.regex.Matcher;
import java.util.regex.Pattern;

/** The class's face against the document's code block, and those language rules that words show. */
public final class FaceTest {
    private static final Path SOURCE = Path.of("src/main/java/HerbKey.java");
    private static final Path DOCUMENT = Path.of("../shared/DOC.md");
    private static final int MOST_CLASSES = 12;
    private static final int MOST_FIELDS = 20;
    private static final int MOST_LINES = 60;

    private static int wrong = 0;

    private static void must(boolean holds, String what) {
        if (holds) return;
        wrong++;
        System.out.println(what);
    }

    public static void main(String[] args) throws IOException {
        face();
        members();
        words();
        lengths();
        System.out.println(wrong == 0 ? "the face is the document's" : wrong + " faults");
        if (wrong != 0) System.exit(1);
    }

    private static void face() throws IOException {
        String text = Files.readString(DOCUMENT);
        int from = text.indexOf("public final class HerbKey {");
        String block = text.substring(from, text.indexOf("```", from));
        Set<String> due = new TreeSet<>();
        Matcher m = Pattern.compile("public (int|long) (\\w+)\\(([^)]*)\\);").matcher(block);
        while (m.find()) due.add(m.group(1) + " " + m.group(2) + "(" + types(m.group(3)) + ")");
        Set<String> got = new TreeSet<>();
        for (Method method : HerbKey.class.getDeclaredMethods()) {
            if (Modifier.isPublic(method.getModifiers())) got.add(signature(method));
        }
        must(due.size() == 42, "the document has " + due.size() + " methods");
        must(due.equals(got), "the face is " + got + ", due is " + due);
        must(Modifier.isFinal(HerbKey.class.getModifiers()), "the class is not final");
    }

    private static String types(String parameters) {
        return parameters.isEmpty() ? "" : parameters.replaceAll("(\\w+) \\w+", "$1").replace(" ", "");
    }

    private static String signature(Method method) {
        StringBuilder out = new StringBuilder();
        for (Class<?> type : method.getParameterTypes()) {
            out.append(out.length() == 0 ? "" : ",").append(type.getSimpleName());
        }
        return method.getReturnType().getSimpleName() + " " + method.getName() + "(" + out + ")";
    }

    private static void members() {
        Set<String> open = new HashSet<>();
        for (Method method : HerbKey.class.getDeclaredMethods()) {
            if (Modifier.isPublic(method.getModifiers())) open.add(method.getName());
        }
        for (Method method : HerbKey.class.getDeclaredMethods()) {
            int kind = method.getModifiers();
            must(Modifier.isPublic(kind) || Modifier.isPrivate(kind), method + " is neither public nor private");
            must(!Modifier.isPrivate(kind) || !open.contains(method.getName()), method + " bears a public name");
            must(method.getParameterCount() <= 7, method + " has too many parameters");
        }
        for (Field field : HerbKey.class.getDeclaredFields()) {
            must(Modifier.isPrivate(field.getModifiers()) || field.getName().equals("BAD"), field + " is open");
        }
        for (Constructor<?> made : HerbKey.class.getDeclaredConstructors()) {
            must(Modifier.isPublic(made.getModifiers()) && made.getParameterCount() == 0, made + " is not of the face");
        }
        must(HerbKey.class.getDeclaredClasses().length < MOST_CLASSES, "too many classes");
        fields(HerbKey.class);
        for (Class<?> inside : HerbKey.class.getDeclaredClasses()) {
            must(Modifier.isStatic(inside.getModifiers()), inside + " is not static");
            must(inside.getDeclaredClasses().length == 0, inside + " has classes inside");
            fields(inside);
        }
    }

    private static void fields(Class<?> of) {
        int own = 0;
        for (Field field : of.getDeclaredFields()) {
            boolean isStatic = Modifier.isStatic(field.getModifiers());
            must(!isStatic || Modifier.isFinal(field.getModifiers()), field + " is static state");
            if (!isStatic) own++;
        }
        must(own <= MOST_FIELDS, of + " has " + own + " fields");
    }

    private static void words() throws IOException {
        String code = Files.readString(SOURCE).replaceAll("(?s)/\\*.*?\\*/", "").replaceAll("//[^\n]*", "");
        String[] never = {"throw", "throws", "try", "catch", "finally", "synchronized", "assert", "float", "double",
            "Object", "System\\.(?!arraycopy)\\w+", "Exact", "equals", "hashCode", "toString", "->", "::", "@", "\""};
        for (String word : never) {
            boolean isWord = Character.isLetter(word.charAt(0));
            Matcher m = Pattern.compile(isWord ? "\\b" + word + "\\b" : word).matcher(code);
            must(!m.find(), "the source has " + word);
        }
        Matcher imports = Pattern.compile("import ([^;]+);").matcher(code);
        while (imports.find()) must(imports.group(1).equals("java.util.Arrays"), "imports " + imports.group(1));
        Matcher library = Pattern.compile("\\b(Math|Long|Integer|Arrays)\\.(\\w+)").matcher(code);
        Set<String> known = Set.of("Math.min", "Math.max", "Math.abs", "Long.bitCount", "Long.compare", "Arrays.fill");
        while (library.find()) must(known.contains(library.group()), "calls " + library.group());
        must(code.chars().allMatch(c -> c < 128), "the source has characters beyond 127");
    }

    private static void lengths() throws IOException {
        int since = 0;
        int at = 0;
        for (String line : Files.readString(SOURCE).split("\n")) {
            at++;
            must(line.length() <= 120, "line " + at + " is long");
            if (line.matches(" {4,8}[\\w\\[\\]<> ]+\\([^;]*\\) \\{")) since = at;
            if (line.matches(" {4,8}}")) must(at - since <= MOST_LINES, "the method that ends at " + at + " is long");
        }
    }
}
