import java.io.IOException;
import java.nio.file.Files;
import java.nio.file.Path;
import java.util.List;

/** The lines of Java in README.md answer what stands behind them there. */
public final class ReadmeTest {
    private static final String REMARK = "// ";
    private static final String THROWS = "throws ";

    private final Check check = new Check();
    private final List<String> lines;
    private int at = 0;

    private ReadmeTest(List<String> lines) {
        this.lines = lines;
    }

    public static void main(String[] args) throws IOException {
        List<String> all = Files.readAllLines(Path.of("README.md"));
        int start = all.indexOf("```java") + 1;
        int length = all.subList(start, all.size()).indexOf("```");
        new ReadmeTest(all.subList(start, start + length)).run();
    }

    private void run() {
        PatternTree tree = new PatternTree();
        shows("PatternTree tree = new PatternTree();");
        shows("tree.clear(8);");
        tree.clear(8);
        answers("tree.add(0xf0, 0x10);", () -> tree.add(0xf0, 0x10));
        answers("tree.add(0xff, 0x20);", () -> tree.add(0xff, 0x20));
        answers("tree.signs(Long.parseLong(\"22220001\", 3));", () -> tree.signs(Long.parseLong("22220001", 3)));
        answers("tree.count(2);", () -> tree.count(2));
        answers("tree.signs(Long.parseLong(\"11112220\", 3));", () -> tree.signs(Long.parseLong("11112220", 3)));
        answers("tree.decode(0x15);", () -> tree.decode(0x15));
        answers("tree.decode(0x21);", () -> tree.decode(0x21));
        answers("tree.meets(0x0f, 0x00);", () -> tree.meets(0x0f, 0x00));
        answers("tree.free(0, 0);", () -> tree.free(0, 0));
        answers("tree.free(0xf0, 0xf0);", () -> tree.free(0xf0, 0xf0));
        answers("tree.next(0x10);", () -> tree.next(0x10));
        answers("tree.next(0xff);", () -> tree.next(0xff));
        answers("tree.told(0, 2);", () -> tree.told(0, 2));
        shows("tree.drop(0);");
        tree.drop(0);
        answers("tree.decode(0x20);", () -> tree.decode(0x20));
        answers("tree.told(2, 0);", () -> tree.told(2, 0));
        answers("tree.count(0);", () -> tree.count(0));
        check.same("lines of README.md", "" + lines.size(), "" + at);
        check.end("ReadmeTest");
    }

    /** Takes the next line of README.md, which must be this one, and gives what it remarks. */
    private String shows(String code) {
        String line = at < lines.size() ? lines.get(at) : "";
        at++;
        int remark = line.indexOf(REMARK);
        check.same("line " + at, code, (remark < 0 ? line : line.substring(0, remark)).strip());
        return remark < 0 ? "" : line.substring(remark + REMARK.length());
    }

    private void answers(String code, Check.Call call) {
        String due = shows(code).split(":")[0];
        if (due.startsWith(THROWS)) {
            check.refuses(code, due.substring(THROWS.length()), call::run);
        } else {
            check.answers(code, Long.decode(due), call);
        }
    }
}
