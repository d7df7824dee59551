import java.io.IOException;
import java.lang.reflect.Field;
import java.lang.reflect.Method;
import java.lang.reflect.Modifier;
import java.nio.file.Files;
import java.nio.file.Path;
import java.util.ArrayList;
import java.util.Arrays;
import java.util.List;
import java.util.Random;
import java.util.Set;
import java.util.TreeSet;
import java.util.regex.Matcher;
import java.util.regex.Pattern;

/** The public face, the rules of LANGUAGE.md that a text search can see, and calls with any numbers. */
public final class FaceTest {
    private static final Check CHECK = new Check("FaceTest");
    private static final List<String> FACE = List.of(
            "int feed(int, int, int, int, int)", "int law(int)", "int clause(int)", "boolean town(int, int)",
            "int canal(int, int, int, int, int)", "boolean depth(int, int)", "int skipper(int, int, int, int)",
            "boolean wants(int, int, int)", "int sign(int, int)", "boolean leave(int)",
            "int cargo(int, int, int, int, int)", "int step(int)", "long look(int, int)", "int told(int, int)",
            "int can(int, int)", "int way(int, int, int)", "int list(int, int)", "long called(int, int)",
            "long best(int)", "int count(int)");

    public static void main(String[] args) throws IOException, ReflectiveOperationException {
        face();
        classesInside();
        String source = Files.readString(Path.of("src/main/java/BargeBourse.java"));
        language(source);
        lengths(source);
        anyNumbers();
        CHECK.end();
    }

    private static String written(Method m) {
        String types = String.join(", ", Arrays.stream(m.getParameterTypes()).map(Class::getSimpleName).toList());
        return m.getReturnType().getSimpleName() + " " + m.getName() + "(" + types + ")";
    }

    private static void face() throws ReflectiveOperationException {
        Set<String> visible = new TreeSet<>();
        Set<String> publicNames = new TreeSet<>();
        for (Method m : BargeBourse.class.getDeclaredMethods()) {
            if (!Modifier.isPrivate(m.getModifiers())) {
                visible.add(written(m));
                publicNames.add(m.getName());
                CHECK.due(m + " is public, of an object", m.getModifiers(), Modifier.PUBLIC);
            }
        }
        CHECK.due("the face: " + visible, visible.equals(new TreeSet<>(FACE)), true);
        for (Class<?> c : BargeBourse.class.getDeclaredClasses()) {
            CHECK.due(c + " is static", Modifier.isStatic(c.getModifiers()), true);
            for (Method m : c.getDeclaredMethods()) {
                CHECK.due(m + " bears another name", publicNames.contains(m.getName()), false);
            }
        }
        for (Method m : BargeBourse.class.getDeclaredMethods()) {
            boolean twice = Modifier.isPrivate(m.getModifiers()) && publicNames.contains(m.getName());
            CHECK.due(m + " bears another name", twice, false);
        }
        for (Field f : BargeBourse.class.getDeclaredFields()) {
            boolean none = f.getName().equals("NONE");
            CHECK.due(f + " is private", Modifier.isPrivate(f.getModifiers()), !none);
        }
        CHECK.due("NONE", BargeBourse.class.getField("NONE").getInt(null), -1);
        CHECK.due("one constructor", BargeBourse.class.getConstructors().length, 1);
        CHECK.due("final", Modifier.isFinal(BargeBourse.class.getModifiers()), true);
    }

    /** What LANGUAGE.md says of static fields, and how many classes, fields and parameters it allows. */
    private static void classesInside() {
        List<Class<?>> classes = new ArrayList<>(List.of(BargeBourse.class.getDeclaredClasses()));
        classes.add(BargeBourse.class);
        CHECK.due("at most twelve classes, not " + classes.size(), classes.size() <= 12, true);
        Set<Class<?>> constants = Set.of(int.class, long.class, boolean.class, char.class, String.class,
                int[].class, long[].class, char[].class, byte[].class);
        for (Class<?> c : classes) {
            int fields = 0;
            for (Field f : c.getDeclaredFields()) {
                boolean constant = Modifier.isStatic(f.getModifiers());
                fields += constant ? 0 : 1;
                CHECK.due(f + " is final", constant && !Modifier.isFinal(f.getModifiers()), false);
                CHECK.due(f + " is a constant", constant && !constants.contains(f.getType()), false);
            }
            CHECK.due(c + " has at most twenty fields, not " + fields, fields <= 20, true);
            for (Method m : c.getDeclaredMethods()) {
                CHECK.due(m + " has at most seven parameters", m.getParameterCount() <= 7, true);
            }
        }
    }

    /** A method ends at the first brace that stands as far in as its first line. */
    private static void lengths(String source) {
        String[] lines = source.split("\n");
        for (int from = 0; from < lines.length; from++) {
            Matcher head = Pattern.compile("^((?: {4})+)[A-Za-z][^=;]*\\) \\{$").matcher(lines[from]);
            if (!head.find() || lines[from].trim().matches("(if|for|while|switch|else|do)\\b.*")) {
                continue;
            }
            int end = from;
            while (end < lines.length - 1 && !lines[end].equals(head.group(1) + "}")) {
                end++;
            }
            CHECK.due("line " + (from + 1) + ": at most sixty lines", end - from <= 60, true);
        }
    }

    private static void language(String source) {
        String code = source.replaceAll("(?s)/\\*.*?\\*/", "").replaceAll("//[^\n]*", "").replaceAll("\"[^\"]*\"", "\"\"");
        for (String word : List.of("throw", "try", "catch", "synchronized", "assert", "package", "new Object",
                "hashCode", "toString", "Exact", "double", "float", "->", "::", "Thread", "System\\.(?!arraycopy)")) {
            Matcher m = Pattern.compile(word).matcher(code);
            CHECK.due("the word " + word + " is there", m.find(), false);
        }
        Matcher imports = Pattern.compile("import ([^;]*);").matcher(code);
        while (imports.find()) {
            boolean listed = imports.group(1).equals("java.util.ArrayList") || imports.group(1).equals("java.util.Arrays");
            CHECK.due("import " + imports.group(1), listed, true);
        }
        CHECK.due("signs beyond 127", source.chars().anyMatch(c -> c > 127), false);
    }

    /** No call throws, whatever its numbers are; a call that threw would end this test. */
    private static void anyNumbers() throws ReflectiveOperationException {
        Random random = new Random(1);
        Method[] methods = Arrays.stream(BargeBourse.class.getDeclaredMethods())
                .filter(m -> Modifier.isPublic(m.getModifiers())).toArray(Method[]::new);
        Arrays.sort(methods, (a, b) -> a.getName().compareTo(b.getName()));
        for (int run = 0; run < 60; run++) {
            BargeBourse x = new BargeBourse();
            for (int call = 0; call < 600; call++) {
                Method m = methods[random.nextInt(methods.length)];
                Object[] numbers = new Object[m.getParameterCount()];
                for (int i = 0; i < numbers.length; i++) {
                    numbers[i] = anyNumber(random);
                }
                CHECK.due(m.getName(), m.invoke(x, numbers) != null, true);
            }
        }
    }

    private static int anyNumber(Random random) {
        return switch (random.nextInt(8)) {
            case 0 -> random.nextInt();
            case 1 -> random.nextBoolean() ? Integer.MAX_VALUE : Integer.MIN_VALUE;
            case 2 -> random.nextInt(600);
            case 3 -> -random.nextInt(3);
            default -> random.nextInt(8);
        };
    }
}
