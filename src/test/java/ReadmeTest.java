import java.io.IOException;
import java.nio.file.Files;
import java.nio.file.Path;
import java.util.List;

/** That the example of README.md answers what it tells. */
public final class ReadmeTest {
    private static final Check check = new Check("ReadmeTest");

    private final List<String> lines;
    private int next;

    private ReadmeTest(List<String> example) {
        lines = example;
    }

    public static void main(String[] args) throws IOException {
        List<String> readme = Files.readAllLines(Path.of(System.getProperty("readme")));
        int from = readme.indexOf("```java") + 1;
        int to = from + readme.subList(from, readme.size()).indexOf("```");
        new ReadmeTest(readme.subList(from, to)).example();
        check.end();
    }

    private void example() {
        line("AgedAssets assets = new AgedAssets();", "");
        AgedAssets assets = new AgedAssets();
        int van = assets.part(100000, 10000, 0, 36, 0, 0);
        line("int van = assets.part(100000, 10000, 0, 36, 0, 0);", "// " + van + ": ");
        line("assets.post();", "// " + assets.post() + ": ");
        int crash = assets.event(van, 0, 3, 46000, 0);
        line("int crash = assets.event(van, 0, 3, 46000, 0);", "// " + crash + ": ");
        line("assets.post();", "// " + assets.post() + ": ");
        line("assets.value(van, 1, 2);", "// " + assets.value(van, 1, 2) + ": ");
        line("assets.without(van, 1);", "// " + assets.without(van, 1) + ": ");
        line("assets.strike(crash);", "// " + assets.strike(crash) + ": ");
        line("assets.post();", "// " + assets.post() + ": ");
        line("assets.total(van);", "// " + assets.total(van) + ": ");
        check.due("lines of the example", next, lines.size());
    }

    private void line(String call, String answer) {
        String told = next < lines.size() ? lines.get(next) : "";
        next++;
        boolean asTold = told.startsWith(call) && told.substring(call.length()).strip().startsWith(answer);
        check.due("the example tells: " + call + " " + answer, true, asTold);
    }
}
