import java.io.IOException;
import java.lang.reflect.Constructor;
import java.lang.reflect.Field;
import java.lang.reflect.Member;
import java.lang.reflect.Method;
import java.lang.reflect.Modifier;
import java.nio.file.Files;
import java.nio.file.Path;
import java.util.ArrayList;
import java.util.Arrays;
import java.util.HashSet;
import java.util.List;
import java.util.Set;
import java.util.TreeSet;
import java.util.regex.Matcher;
import java.util.regex.Pattern;

/** What of LANGUAGE.md can be seen from the class as compiled, and from its text. */
public final class LanguageTest {
    private static final String FACE = "doing of needless learn odds hours feed post told said hand go run split more ask drop"
            + " when busiest all list looked fits chance judge image undo act trace taken count tape item read shift";
    private static final String CONSTANTS = "NONE BAD STATE FULL NO";
    private static final Set<String> LIBRARY = Set.of("Arrays.fill", "Arrays.copyOf", "Arrays.copyOfRange", "System.arraycopy",
            "Math.floorMod", "Math.floorDiv", "Math.max", "Math.min", "Math.abs", "Integer.bitCount", "Integer.MAX_VALUE",
            "Integer.MIN_VALUE", "Long.MIN_VALUE", "Long.MAX_VALUE");
    private static int wrong;

    private static void must(boolean is, String what) {
        if (!is) {
            wrong++;
            System.out.println(what);
        }
    }

    private static boolean isHidden(Member member) {
        return member.isSynthetic() || Modifier.isPrivate(member.getModifiers());
    }

    private static void face() {
        Set<String> names = new TreeSet<>();
        for (Method method : NextOneKnows.class.getDeclaredMethods()) {
            if (!isHidden(method)) {
                must(Modifier.isPublic(method.getModifiers()), method + ": neither public nor private");
                must(names.add(method.getName()), method + ": twice");
            }
        }
        must(names.equals(new TreeSet<>(Arrays.asList(FACE.split(" ")))), "the face: " + names);
        Set<String> constants = new TreeSet<>();
        for (Field field : NextOneKnows.class.getDeclaredFields()) {
            if (!isHidden(field)) {
                constants.add(field.getName());
                must(Modifier.toString(field.getModifiers()).equals("public static final"), field + ": no constant");
            }
        }
        must(constants.equals(new TreeSet<>(Arrays.asList(CONSTANTS.split(" ")))), "constants: " + constants);
        must(NextOneKnows.class.getConstructors().length == 1, "one constructor");
        must(Modifier.toString(NextOneKnows.class.getModifiers()).equals("public final"), "public and final");
    }

    private static void insideAll() {
        List<Class<?>> all = new ArrayList<>(Arrays.asList(NextOneKnows.class.getDeclaredClasses()));
        must(all.size() + 1 <= 12, "some twelve classes: " + (all.size() + 1));
        for (Class<?> inside : all) {
            must(Modifier.isStatic(inside.getModifiers()), inside + ": not static");
            must(!Modifier.isPublic(inside.getModifiers()) && !Modifier.isProtected(inside.getModifiers()), inside + ": seen");
            must(inside.getDeclaredClasses().length == 0, inside + ": classes inside");
        }
        all.add(NextOneKnows.class);
        Set<String> face = new HashSet<>(Arrays.asList(FACE.split(" ")));
        for (Class<?> each : all) {
            int fields = 0;
            for (Field field : each.getDeclaredFields()) {
                boolean isStatic = Modifier.isStatic(field.getModifiers());
                must(!isStatic || Modifier.isFinal(field.getModifiers()), field + ": static and not final");
                must(!isStatic || field.getType() == int.class || field.getType() == long.class, field + ": no constant number");
                fields += isStatic ? 0 : 1;
            }
            must(fields <= 20, each + ": " + fields + " fields");
            for (Method method : each.getDeclaredMethods()) {
                must(!method.isSynthetic(), method + ": a lambda, a bridge or the like");
                must(method.getParameterCount() <= 7, method + ": parameters");
                boolean isFaces = each == NextOneKnows.class && Modifier.isPublic(method.getModifiers());
                must(isFaces || !face.contains(method.getName()), method + ": bears a public one's name");
                must(!Set.of("equals", "hashCode", "toString").contains(method.getName()), method + ": not to be");
            }
            for (Constructor<?> made : each.getDeclaredConstructors()) {
                must(made.getParameterCount() <= 7, made + ": parameters");
            }
        }
    }

    private static void text() throws IOException {
        String text = Files.readString(Path.of("src/main/java/NextOneKnows.java"));
        must(text.chars().allMatch(c -> c < 128), "a sign beyond 127");
        String bare = text.replaceAll("(?s)/\\*.*?\\*/", "").replaceAll("//[^\n]*", "").replaceAll("'.'", "0");
        Matcher words = Pattern.compile("\\b(throw|throws|try|catch|finally|synchronized|assert|interface|enum|record|volatile"
                + "|transient|native|double|float|while\\s*\\(\\s*true|hashCode|equals|package|var|yield)\\b|->|::|@|\"").matcher(bare);
        while (words.find()) {
            must(false, "not in the language: " + words.group());
        }
        Matcher imports = Pattern.compile("import ([\\w.]+);").matcher(bare);
        while (imports.find()) {
            must(Set.of("java.util.Arrays", "java.util.ArrayList", "java.util.List").contains(imports.group(1)), imports.group());
        }
        Matcher calls = Pattern.compile("\\b(Arrays|System|Math|Integer|Long|String|Object|Thread)\\.\\w+").matcher(bare.replaceAll("import .*", ""));
        while (calls.find()) {
            must(LIBRARY.contains(calls.group()), "not in the library: " + calls.group());
        }
        methodLengths(text.split("\n"));
    }

    private static void methodLengths(String[] lines) {
        int from = -1;
        for (int k = 0; k < lines.length; k++) {
            if (lines[k].matches("( {4}| {8})\\S.*\\) \\{") && !lines[k].contains("class ")) {
                from = k;
            }
            if (from >= 0 && lines[k].matches("( {4}| {8})\\}")) {
                must(k - from <= 60, "a long method at line " + (from + 1));
            }
        }
    }

    public static void main(String[] args) throws IOException {
        face();
        insideAll();
        text();
        System.out.println("the language: " + wrong + " faults");
        if (wrong != 0) {
            System.exit(1);
        }
    }
}
