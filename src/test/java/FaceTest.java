import java.lang.reflect.Constructor;
import java.lang.reflect.Field;
import java.lang.reflect.Method;
import java.lang.reflect.Modifier;
import java.nio.charset.StandardCharsets;
import java.nio.file.Files;
import java.nio.file.Path;
import java.util.ArrayList;
import java.util.List;
import java.util.Set;
import java.util.TreeSet;
import java.util.regex.Matcher;
import java.util.regex.Pattern;

/** The public face is the document's, no more and no less, and the source keeps to those rules of LANGUAGE.md that can be seen. */
public final class FaceTest {
    private static final Path DOCUMENT = Path.of("../shared/DOC.md");
    private static final Path SOURCE = Path.of("src/main/java/ClashFree.java");
    private static final int LONGEST_METHOD = 60;
    private static int wrong = 0;

    private static void check(boolean right, String what) {
        if (!right) {
            wrong++;
            System.out.println("not so: " + what);
        }
    }

    public static void main(String[] args) throws Exception {
        face();
        members(ClashFree.class);
        nested();
        String source = Files.readString(SOURCE, StandardCharsets.UTF_8);
        words(source);
        lengths(source);
        System.out.println(wrong == 0 ? "the face and the rules are kept" : wrong + " are not kept");
        if (wrong != 0) {
            System.exit(1);
        }
    }

    private static void face() throws Exception {
        String document = Files.readString(DOCUMENT, StandardCharsets.UTF_8);
        int from = document.indexOf("```java");
        String block = document.substring(from, document.indexOf("```", from + 7));
        Set<String> want = new TreeSet<>();
        Matcher matcher = Pattern.compile("public (?!static|final)(\\w+ )?(\\w+)\\(([^)]*)\\);").matcher(block);
        while (matcher.find()) {
            String types = matcher.group(3).replaceAll(" \\w+(?=,|$)", "").replace(" ", "");
            want.add((matcher.group(1) == null ? "" : matcher.group(1)) + matcher.group(2) + "(" + types + ")");
        }
        Set<String> have = new TreeSet<>();
        for (Method method : ClashFree.class.getDeclaredMethods()) {
            if (Modifier.isPublic(method.getModifiers())) {
                check(!Modifier.isStatic(method.getModifiers()), method + " is not static");
                have.add(method.getReturnType() + " " + method.getName() + types(method.getParameterTypes()));
            }
        }
        for (Constructor<?> constructor : ClashFree.class.getDeclaredConstructors()) {
            have.add("ClashFree" + types(constructor.getParameterTypes()));
        }
        check(want.size() == 38, "the document has 38 calls, seen " + want.size());
        check(have.equals(want), "the face is " + want + ", it is " + have);
        check(ClashFree.NONE == -1 && ClashFree.NOTHING == -1000000000000000L, "the constants");
        check(ClashFree.class.getField("NONE").getType() == int.class, "NONE is an int");
        check(ClashFree.class.getField("NOTHING").getType() == long.class, "NOTHING is a long");
        check(ClashFree.class.getFields().length == 2, "two public constants");
        check(Modifier.isFinal(ClashFree.class.getModifiers()), "the class is final");
    }

    private static String types(Class<?>[] types) {
        StringBuilder text = new StringBuilder("(");
        for (Class<?> type : types) {
            text.append(text.length() > 1 ? "," : "").append(type.getName());
        }
        return text.append(")").toString();
    }

    private static void members(Class<?> all) {
        Set<String> open = new TreeSet<>();
        for (Method method : ClashFree.class.getDeclaredMethods()) {
            if (Modifier.isPublic(method.getModifiers())) {
                open.add(method.getName());
            }
        }
        int fields = 0;
        for (Field field : all.getDeclaredFields()) {
            int kind = field.getModifiers();
            fields += Modifier.isStatic(kind) ? 0 : 1;
            check(!Modifier.isStatic(kind) || Modifier.isFinal(kind), field + " is final");
            check(all != ClashFree.class || Modifier.isPublic(kind) || Modifier.isPrivate(kind), field + " is private");
        }
        check(fields <= 20, all + " has " + fields + " fields");
        for (Method method : all.getDeclaredMethods()) {
            boolean isPublic = Modifier.isPublic(method.getModifiers());
            check(all != ClashFree.class || isPublic || Modifier.isPrivate(method.getModifiers()), method + " is private");
            check(isPublic || !open.contains(method.getName()), method + " bears the name of a public one");
            check(method.getParameterCount() <= 7, method + " takes more than seven");
        }
    }

    private static void nested() {
        Class<?>[] all = ClashFree.class.getDeclaredClasses();
        check(all.length < 12, "classes: " + all.length);
        for (Class<?> one : all) {
            int kind = one.getModifiers();
            check(Modifier.isStatic(kind), one + " is static");
            check(!Modifier.isPublic(kind) && !Modifier.isProtected(kind), one + " is not public");
            members(one);
        }
    }

    private static void words(String source) {
        for (int i = 0; i < source.length(); i++) {
            check(source.charAt(i) < 127 && (source.charAt(i) >= 32 || source.charAt(i) == 10), "plain signs at " + i);
        }
        String code = source.replaceAll("(?s)/\\*.*?\\*/", "").replaceAll("//[^\n]*", "").replaceAll("\"[^\"\n]*\"", "\"\"");
        String[] banned = {"throw", "throws", "try", "catch", "synchronized", "assert", "package", "import", "volatile", "double",
            "float", "Object", "Exception", "interface", "native", "transient", "hashCode", "toString", "Random", "Thread"};
        for (String word : banned) {
            check(!Pattern.compile("\\b" + word + "\\b").matcher(code).find(), "no " + word);
        }
        check(!code.contains("->") && !code.contains("::"), "no lambda, no method reference");
        check(!code.contains("@"), "no annotation");
        Matcher library = Pattern.compile("\\b(System|Math|Integer|Long|String|StringBuilder|Arrays)\\.(\\w+)").matcher(code);
        List<String> allowed = List.of("System.arraycopy", "Math.max", "Math.min");
        while (library.find()) {
            check(allowed.contains(library.group()), "of the library: " + library.group());
        }
        check(!Pattern.compile("while \\(true\\)|for \\(;;\\)").matcher(code).find(), "each loop's end is seen");
    }

    private static void lengths(String source) {
        List<String> lines = new ArrayList<>(List.of(source.split("\n")));
        for (String indent : new String[] {"    ", "        "}) {
            int began = -1;
            for (int n = 0; n < lines.size(); n++) {
                String line = lines.get(n);
                if (line.matches(indent + "\\S.*\\) \\{")) {
                    began = n;
                } else if (line.equals(indent + "}") && began >= 0) {
                    check(n - began < LONGEST_METHOD, "short: " + lines.get(began).trim());
                    began = -1;
                }
                check(line.length() <= 140, "short lines: " + (n + 1));
            }
        }
    }
}
