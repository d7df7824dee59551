import java.io.IOException;
import java.lang.reflect.Method;
import java.lang.reflect.Modifier;
import java.nio.file.Files;
import java.nio.file.Path;
import java.util.regex.Matcher;
import java.util.regex.Pattern;

/** README.md: its examples answer what it says, and every call of the class is told in it. */
public final class ReadmeTest {
    private static final Check CHECK = new Check("ReadmeTest");

    public static void main(String[] args) throws IOException {
        String readme = Files.readString(Path.of("README.md"));
        dueTold(readme);
        dueLines(readme);
        example();
        faultOfTheReadme();
        CHECK.end();
    }

    private static void dueTold(String readme) {
        for (Method m : BargeBourse.class.getDeclaredMethods()) {
            if (Modifier.isPublic(m.getModifiers())) {
                Matcher row = Pattern.compile("\\| `" + m.getName() + "\\(([^)]*)\\)` \\|").matcher(readme);
                CHECK.due(m.getName() + " is told", row.find(), true);
                CHECK.due(m.getName() + ": parameters", row.group(1).split(", ").length, m.getParameterCount());
            }
        }
        for (String word : new String[] {"new BargeBourse()", "512 calls", "`BargeBourse.NONE` (-1) or `false`", ".ci/run"}) {
            CHECK.due("the words \"" + word + "\"", readme.contains(word), true);
        }
    }

    /** The examples below are the ones of README.md. */
    private static void dueLines(String readme) {
        for (String line : new String[] {"x.canal(0, 1, 2, 200, 1)", "x.skipper(100, 50, 10, 7)", "x.wants(skipper, 5, 0)",
            "x.sign(skipper, 0);                         // 1", "x.cargo(0, 1, 100, 0, 500)",
            "x.can(skipper, cargo);          // 3", "x.step(24)", "x.look(skipper, 0);            // 2", "x.step(8)",
            "x.look(skipper, 7);            // 500", "x.feed(0x63313b75, 0x31303020, 0, 0, 0);    // 20",
            "x.law(7);                       // 0", "x.clause(0);                     // 1", "`c1;p10` answers 304",
            "the law `c24;p2;u50;f6;d10`"}) {
            CHECK.due("the line " + line, readme.contains(line), true);
        }
    }

    private static void example() {
        BargeBourse x = new BargeBourse();
        int canal = x.canal(0, 1, 2, 200, 1);
        int skipper = x.skipper(100, 50, 10, 7);
        CHECK.due("canal", canal, 0);
        CHECK.due("wants", x.wants(skipper, 5, 0), true);
        CHECK.due("sign", x.sign(skipper, 0), 1);
        int cargo = x.cargo(0, 1, 100, 0, 500);
        CHECK.due("can", x.can(skipper, cargo), 3);
        CHECK.due("step(24)", x.step(24), 24);
        CHECK.due("loading", x.look(skipper, 0), 2);
        CHECK.due("step(8)", x.step(8), 32);
        CHECK.due("money", x.look(skipper, 7), 500);
        CHECK.due("feed", x.feed(0x63313b75, 0x31303020, 0, 0, 0), 20);
        CHECK.due("law", x.law(7), 0);
        CHECK.due("clause", x.clause(0), 1);
        CHECK.due("clause", x.clause(2), 100);
    }

    private static void faultOfTheReadme() {
        BargeBourse x = new BargeBourse();
        CHECK.due("the law at first is what the text tells", Check.law(x, "c24;p2;u50;f6;d10"), 0);
        BargeBourse y = new BargeBourse();
        for (int what = 0; what < 5; what++) {
            CHECK.due("clause(" + what + ")", x.clause(what), y.clause(what));
        }
        CHECK.due("c1;p10", Check.law(x, "c1;p10"), 304);
    }
}
