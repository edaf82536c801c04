import java.io.IOException;
import java.nio.charset.StandardCharsets;
import java.nio.file.Files;
import java.nio.file.Path;
import java.util.ArrayList;
import java.util.List;

/** README.md's examples: their lines stand here too, and answer what their comments say. */
public final class ReadmeTest {
    public static void main(String[] args) throws IOException {
        firstExample();
        secondExample();
        linesAreThese();
        Check.done();
    }

    private static void firstExample() {
        PagedHart x = new PagedHart();
        x.pokeFour(0, 0x00500093, 0x00108133, 0x73, 0);
        int steps = x.run(20000);
        boolean byCall = x.called();
        int ten = x.register(2);
        Check.same("steps", steps, 3);
        Check.same("byCall", byCall, true);
        Check.same("ten", ten, 10);
    }

    private static void secondExample() {
        PagedHart y = new PagedHart();
        y.poke(0x100, 0x73);
        y.setControl(0x105, 0x100);
        y.poke(0x2000, 0xcf);
        y.poke(0x2004, 0x3 << 10 | 0x1);
        y.poke(0x3000, 0x4 << 10 | 0x5b);
        y.setControl(0x180, 0x80000002);
        y.poke(0x4000, 0x00108093);
        y.poke(0x4004, 0xffdff06f);
        y.setControl(0x5c1, 10);
        y.setRegister(32, 0x400000);
        y.setRegister(33, 0);
        int at = y.translate(0x400004, 0);
        int made = y.run(20000);
        int cause = y.control(0x142);
        int five = y.register(1);
        int none = y.translate(0x400004, 0);
        Check.same("at", at, 0x4004);
        Check.same("made", made, 12);
        Check.same("cause", cause, 0x18);
        Check.same("five", five, 5);
        Check.same("none", none, -13);
    }

    /** So that neither the examples nor this file change without the other. */
    private static void linesAreThese() throws IOException {
        List<String> here = codeOf(Files.readAllLines(Path.of("src/test/java/ReadmeTest.java"), StandardCharsets.UTF_8));
        List<String> told = new ArrayList<>();
        boolean inside = false;
        for (String line : Files.readAllLines(Path.of("README.md"), StandardCharsets.UTF_8)) {
            if (line.startsWith("```")) {
                inside = line.equals("```java");
            } else if (inside) {
                told.add(line);
            }
        }
        List<String> examples = codeOf(told);
        Check.same("README.md's lines of code", examples.size(), 22);
        int next = 0;
        for (String line : examples) {
            int found = here.subList(next, here.size()).indexOf(line);
            Check.same("README.md's line is tested: " + line, found >= 0, true);
            next += found + 1;
        }
    }

    /** The lines without their comments and the blanks around them, where something is left. */
    private static List<String> codeOf(List<String> lines) {
        List<String> code = new ArrayList<>();
        for (String line : lines) {
            int comment = line.indexOf("//");
            String rest = (comment < 0 ? line : line.substring(0, comment)).trim();
            if (!rest.isEmpty()) {
                code.add(rest);
            }
        }
        return code;
    }
}
