import java.io.File;
import java.lang.reflect.Method;
import java.lang.reflect.Modifier;
import java.nio.charset.StandardCharsets;
import java.nio.file.Files;
import java.nio.file.Path;
import java.util.ArrayList;
import java.util.List;

/** That README.md says how to use the class, and how to run its tests, as they now stand. */
public final class ReadmeTest {
    private static final List<String> example = new ArrayList<>();
    private static int line = 0;

    public static void main(String[] args) throws Exception {
        String readme = Files.readString(Path.of("README.md"), StandardCharsets.UTF_8);
        int from = readme.indexOf("```java\n") + "```java\n".length();
        example.addAll(List.of(readme.substring(from, readme.indexOf("```\n", from)).split("\n")));
        theExample();
        for (Method m : TwoSeek.class.getDeclaredMethods()) {
            if (Modifier.isPublic(m.getModifiers())) {
                String call = "`" + m.getName() + (m.getParameterCount() == 0 ? "()`" : "(..)`");
                Seek.due("README.md names " + call, readme.contains(call), true);
            }
        }
        for (Class<?> c : TwoSeek.class.getDeclaredClasses()) {
            Seek.due("README.md names " + c, readme.contains("`" + c.getSimpleName() + "`"), true);
        }
        for (File f : new File("src/test/java").listFiles()) {
            String name = f.getName().replace(".java", "");
            Seek.due("README.md names " + f, readme.contains("`" + name + "`"), true);
        }
        for (int status = 0; status <= 11; status++) {
            Seek.due("README.md tells STATUS " + status, readme.contains("\n| " + status + " | "), true);
        }
        Seek.due(".ci/run is told, and there", readme.contains("\n    .ci/run\n") && Files.isExecutable(Path.of(".ci/run")), true);
        Seek.end();
    }

    /** The next line of the example is this call, and tells this answer ahead of all else. */
    private static void told(String call, String answer) {
        String is = line < example.size() ? example.get(line) : "";
        String told = is.replaceAll("^.*// ", "").split("[ ,:]")[0];
        Seek.due("the example has '" + call + "' in line " + line + ": " + is, is.startsWith(call + ";"), true);
        Seek.due("the example tells '" + answer + "' in line " + line + ": " + is, told.equals(answer), true);
        line++;
    }

    private static void told(String call, long answer) {
        told(call, String.valueOf(answer));
    }

    private static void told(String call, boolean answer) {
        told(call, String.valueOf(answer));
    }

    private static void theExample() {
        Seek.due("the first line makes an object", example.get(0).equals("TwoSeek x = new TwoSeek();"), true);
        line++;
        TwoSeek x = new TwoSeek();
        told("x.feed(0x706c6163, 0x6520613b, 0x706c6163, 0x6520623b, 0x6c616e65)",
                x.feed(0x706c6163, 0x6520613b, 0x706c6163, 0x6520623b, 0x6c616e65));
        told("x.feed(0x20612074, 0x6f20623b, 0x20202020, 0x20202020, 0x20202020)",
                x.feed(0x20612074, 0x6f20623b, 0x20202020, 0x20202020, 0x20202020));
        told("x.town(28)", x.town(28));
        told("x.tray(0, 0, 1)", x.tray(0, 0, 1));
        told("x.clock(0, 1, false)", x.clock(0, 1, false));
        told("x.write(0, 0, 1)", x.write(0, 0, 1));
        told("x.clock(0, 1, true)", x.clock(0, 1, true));
        told("x.when(0, 1, 0, 1)", x.when(0, 1, 0, 1));
        told("x.when(1, 1, 0, 1)", x.when(1, 1, 0, 1));
        told("x.status()", x.status());
        told("x.mean(0, 1)", x.mean(0, 1));
        told("x.top()", x.top());
        told("x.bottom()", x.bottom());
        told("x.agreed(1)", x.agreed(1));
        told("x.step(0, 0)", x.step(0, 0));
        told("x.step(1, 0)", x.step(1, 0));
        told("x.bestDrawn(0, 1, 1, 1)", x.bestDrawn(0, 1, 1, 1));
        told("x.top()", x.top());
        told("x.bottom()", x.bottom());
        Seek.due("that is the whole example", line, example.size());
    }
}
