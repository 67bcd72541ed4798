import java.io.IOException;
import java.lang.reflect.Method;
import java.lang.reflect.Modifier;
import java.nio.file.Files;
import java.nio.file.Path;
import java.util.regex.Matcher;
import java.util.regex.Pattern;
import java.util.stream.Stream;

/** README.md tells what the class answers, names each of its calls, and each file of its tests. */
final class ReadmeTest {
    private static final Path ROOT = Path.of(System.getProperty("root", "."));
    private static final Path TESTS = ROOT.resolve("src/test/java");

    /** The example, line by line, with what its comments say. */
    private static void exampleAnswersAsItSays() {
        FluxBench bench = new FluxBench();
        int track = bench.track(2);
        Check.same("its number", track, 0);
        bench.sector(track, 1, 2, 770, true);
        bench.weak(track, 30, true);
        bench.read(track);
        Check.same("a 0 came there", bench.vote(track, 30), 0);
        Check.sameText("number 1, data 2 and 3", Benches.sectorOf(bench, track, 0), "0 1 2 1 8 2 3 -1 -1");
        bench.read(track);
        Check.same("a 1 came there", bench.vote(track, 30), 1);
        int bad = bench.ofTrack(track, 9);
        Check.same("guards", bad, 5);
        bench.weak(track, 30, false);
        bench.read(track);
        Check.same("two of three have 0", bench.vote(track, 30), 0);
        int good = bench.ofTrack(track, 6);
        Check.same("good ones", good, 1);
        double sure = bench.sure(track);
        Check.sameDouble("how sure", sure, 1.0 - 1.0 / 62);
        int copy = bench.track(0);
        Check.same("the number of the other one", copy, 1);
        int cells = bench.copy(track, copy, false);
        Check.same("cells of the copy", cells, 61);
        Check.same("its code", bench.ofTrack(copy, 0), 2);
    }

    /** Each line of the page's example stands in the method above, in that order. */
    private static void exampleIsTheOneThatIsTried(String page) throws IOException {
        Matcher block = Pattern.compile("(?s)```java\n(.*?)```").matcher(page);
        boolean isThere = block.find();
        Check.same("there is an example", isThere, true);
        String tried = Files.readString(TESTS.resolve("ReadmeTest.java"));
        int from = tried.indexOf("void exampleAnswersAsItSays()");
        for (String line : isThere ? block.group(1).split("\n") : new String[0]) {
            String code = line.replaceAll("//.*", "").trim();
            int found = tried.indexOf("        " + code + "\n", from);
            Check.same("the line is tried: " + code, found >= 0, true);
            from = found < 0 ? from : found + code.length();
        }
    }

    private static void everyCallIsNamed(String page) {
        for (Method method : FluxBench.class.getDeclaredMethods()) {
            if (Modifier.isPublic(method.getModifiers())) {
                String name = method.getName();
                Check.same("the page names " + name, page.contains("`" + name + "`"), true);
            }
        }
    }

    private static void everyTestIsNamed(String page) throws IOException {
        try (Stream<Path> files = Files.list(TESTS)) {
            for (Path file : files.toArray(Path[]::new)) {
                String name = file.getFileName().toString().replace(".java", "");
                Check.same("the page names " + name, page.contains("`" + name + "`"), true);
            }
        }
        Matcher named = Pattern.compile("`(\\w+Test)`").matcher(page);
        while (named.find()) {
            Check.same("there is " + named.group(1), Files.exists(TESTS.resolve(named.group(1) + ".java")), true);
        }
    }

    public static void main(String[] args) throws IOException {
        String page = Files.readString(ROOT.resolve("README.md"));
        exampleAnswersAsItSays();
        exampleIsTheOneThatIsTried(page);
        everyCallIsNamed(page);
        everyTestIsNamed(page);
        Check.end("ReadmeTest");
    }
}
