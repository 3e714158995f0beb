import java.lang.reflect.Constructor;
import java.lang.reflect.Field;
import java.lang.reflect.Method;
import java.lang.reflect.Modifier;
import java.nio.file.Files;
import java.nio.file.Path;
import java.util.Arrays;
import java.util.List;
import java.util.Set;
import java.util.TreeSet;
import java.util.regex.Matcher;
import java.util.regex.Pattern;

/** The rules of LANGUAGE.md that can be seen from the class and from its source. */
public final class LanguageTest {
    private static final String FACE = "row/3 set/3 copy/5 drop/1 feed/1 isle/0 fault/0 undo/0 hours/1 send/2 wind/1 sand/2"
        + " speed/2 boat/2 cell/2 stand/1 ahead/2 owner/1 held/2 shows/0 dry/1 open/1 first/1 latest/2 winds/2 recall/3"
        + " fleet/2 sandFor/1 who/5 barred/3 rich/0 wreck/4 drawn/3 image/1 restore/1 kind/1 as/2 ask/2 trace/1 count/1"
        + " status/0";

    private static int wrong = 0;

    private static void check(boolean holds, String what) {
        if (holds) return;
        wrong++;
        System.out.println("not as LANGUAGE.md says: " + what);
    }

    public static void main(String[] args) throws Exception {
        face();
        innerClasses();
        String source = Files.readString(Path.of("src/main/java/SpringIsle.java"));
        words(source);
        lengths(source);
        System.out.println(wrong == 0 ? "the language is kept" : wrong + " rules are broken");
        if (wrong != 0) System.exit(1);
    }

    private static void face() {
        Class<?> program = SpringIsle.class;
        check(Modifier.isPublic(program.getModifiers()) && Modifier.isFinal(program.getModifiers()), "rule 1, the class");
        Set<String> seen = new TreeSet<>();
        for (Method method : program.getDeclaredMethods()) {
            if (Modifier.isPrivate(method.getModifiers())) continue;
            check(Modifier.isPublic(method.getModifiers()), "rule 1, " + method);
            Class<?> answer = method.getName().equals("wreck") ? long.class : int.class;
            check(method.getReturnType() == answer, "the face, " + method);
            for (Class<?> type : method.getParameterTypes()) check(type == int.class, "the face, " + method);
            seen.add(method.getName() + "/" + method.getParameterCount());
        }
        check(seen.equals(new TreeSet<>(Arrays.asList(FACE.split(" ")))), "the face, " + seen);
        Set<String> constants = new TreeSet<>();
        for (Field field : program.getDeclaredFields()) {
            if (!Modifier.isPrivate(field.getModifiers())) constants.add(field.getName());
        }
        check(constants.equals(Set.of("NONE", "BAD", "STATE", "FULL")), "rule 1, " + constants);
        for (Constructor<?> constructor : program.getDeclaredConstructors()) {
            check(constructor.getParameterCount() == 0 && Modifier.isPublic(constructor.getModifiers()), "rule 1, " + constructor);
        }
    }

    private static void innerClasses() {
        Set<String> names = new TreeSet<>();
        for (String method : FACE.split(" ")) names.add(method.substring(0, method.indexOf('/')));
        Class<?>[] inside = SpringIsle.class.getDeclaredClasses();
        check(inside.length <= 11, "rule 11, classes");
        for (Method method : SpringIsle.class.getDeclaredMethods()) {
            boolean bears = Modifier.isPrivate(method.getModifiers()) && names.contains(method.getName());
            check(!bears, "rule 1, the name of " + method);
        }
        for (Class<?> one : inside) {
            check(Modifier.isStatic(one.getModifiers()), "rule 2, " + one);
            check(one.getDeclaredClasses().length == 0, "rule 2, classes inside " + one);
            for (Method method : one.getDeclaredMethods()) {
                check(!names.contains(method.getName()), "rule 1, the name of " + method);
            }
        }
        for (Class<?> one : inside) fieldsAndParameters(one);
        fieldsAndParameters(SpringIsle.class);
    }

    private static void fieldsAndParameters(Class<?> one) {
        int fields = 0;
        for (Field field : one.getDeclaredFields()) {
            boolean isStatic = Modifier.isStatic(field.getModifiers());
            check(!isStatic || Modifier.isFinal(field.getModifiers()), "rule 5, " + field);
            if (!isStatic) fields++;
        }
        check(fields <= 20, "rule 11, fields of " + one);
        for (Method method : one.getDeclaredMethods()) check(method.getParameterCount() <= 7, "rule 11, " + method);
    }

    private static void words(String source) {
        String code = source.replaceAll("(?s)/\\*.*?\\*/", "").replaceAll("//[^\n]*", "");
        List<String> banned = List.of("throw", "throws", "try", "catch", "synchronized", "assert", "import", "package",
            "protected", "double", "float", "Object", "var", "System\\.(?!arraycopy)\\w+", "Math\\.\\w+Exact", "hashCode",
            "toString", "equals");
        for (String word : banned) {
            check(!Pattern.compile("\\b" + word + "\\b").matcher(code).find(), "rules 3, 4, 6: " + word);
        }
        check(!code.contains("->") && !code.contains("::"), "rule 2, lambdas");
        check(!Pattern.compile("static\\s*\\{").matcher(code).find(), "rule 5, a static block");
        for (int i = 0; i < source.length(); i++) check(source.charAt(i) < 128, "a sign above 127 at " + i);
        // The room of a run is small, so that objects are made by fields and by the constructors alone.
        String fieldsOrConstructors = ".*\\bfinal\\b.*|\\s*(Isle none|seer|bodies) = |.*kept\\[k\\] = ";
        Matcher made = Pattern.compile("(?m)^(.*)\\bnew\\b").matcher(code);
        while (made.find()) check(made.group(1).matches(fieldsOrConstructors), "rule 12, a call makes an object: " + made.group());
    }

    private static void lengths(String source) {
        int start = -1;
        String[] lines = source.split("\n");
        String begin = null;
        for (int i = 0; i < lines.length; i++) {
            if (begin == null && lines[i].matches("(    |        )\\S.*\\) \\{")) {
                start = i;
                begin = lines[i].replaceAll("\\S.*", "");
            } else if (begin != null && lines[i].equals(begin + "}")) {
                check(i - start < 60, "rule 11, lines from " + (start + 1) + " on");
                begin = null;
            }
        }
    }
}
