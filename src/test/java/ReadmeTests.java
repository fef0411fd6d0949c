import java.io.File;
import java.io.IOException;
import java.lang.reflect.Method;
import java.lang.reflect.Modifier;
import java.nio.file.Files;
import java.nio.file.Path;
import java.util.ArrayList;
import java.util.Arrays;
import java.util.Comparator;
import java.util.List;
import java.util.regex.Matcher;
import java.util.regex.Pattern;
import java.util.stream.Collectors;
import java.util.stream.Stream;

/** README.md: its first program answers what it says, its commands can be run, and what it names is there. */
public final class ReadmeTests extends Checks {
    /** A part of the page between fences: what stands behind the first fence, and the lines. */
    record Block(String kind, List<String> lines) { }

    private static final Path TESTS = Path.of("src/test/java");
    private static final Path THE_CLASS = Path.of("src/main/java/Cascadum.java");

    private final List<String> page;
    private final String text;
    private final List<Block> blocks = new ArrayList<>();

    private ReadmeTests() throws IOException {
        page = Files.readAllLines(Path.of("README.md"));
        text = String.join("\n", page);
        List<String> open = null;
        for (String line : page) {
            if (!line.startsWith("```")) {
                if (open != null) {
                    open.add(line);
                }
            } else if (open == null) {
                open = new ArrayList<>();
                blocks.add(new Block(line.substring(3), open));
            } else {
                open = null;
            }
        }
    }

    public static void main(String[] args) throws IOException, InterruptedException {
        ReadmeTests one = new ReadmeTests();
        one.kinds();
        one.firstProgram();
        one.oneTestAlone();
        one.calls();
        one.tests();
        one.files();
        one.bounds();
        close("ReadmeTests");
    }

    private void kinds() {
        expect("the blocks of README.md", "[java, sh, text, sh, sh]",
                blocks.stream().map(Block::kind).toList().toString());
        expect("how the tests are run", "[.ci/run]", blocks.get(3).lines.toString());
        due(".ci/run is there and can be run", true, () -> Files.isExecutable(Path.of(".ci/run")));
    }

    /** The program is put where the page says, and the commands of the page are run there, word by word. */
    private void firstProgram() throws IOException, InterruptedException {
        String program = String.join("\n", blocks.get(0).lines);
        Matcher name = Pattern.compile("public final class (\\w+)").matcher(program);
        expect("a class of its own", "true", String.valueOf(name.find()));
        String file = name.group(1) + ".java";
        expect("the page names the file " + file, "true", String.valueOf(text.contains("`" + file + "`")));
        Path place = Files.createTempDirectory("readme");
        copy(THE_CLASS, place);
        Files.writeString(place.resolve(file), program);
        List<String> said = runAll(blocks.get(1).lines, place);
        expect("what the first program answers", String.join("\n", blocks.get(2).lines), String.join("\n", said));
        drop(place);
    }

    private void oneTestAlone() throws IOException, InterruptedException {
        Path place = Files.createTempDirectory("readme");
        copy(THE_CLASS, place);
        for (Path test : found(TESTS)) {
            copy(test, place);
        }
        List<String> said = runAll(blocks.get(4).lines, place);
        expect("one test alone", "true", String.valueOf(said.size() == 1 && said.get(0).endsWith(" 0 wrong")));
        drop(place);
    }

    private static void copy(Path file, Path place) throws IOException {
        Path to = place.resolve(file.toString());
        Files.createDirectories(to.getParent());
        Files.copy(file, to);
    }

    private static void drop(Path place) throws IOException {
        try (Stream<Path> all = Files.walk(place)) {
            all.sorted(Comparator.reverseOrder()).map(Path::toFile).forEach(File::delete);
        }
    }

    private static List<String> runAll(List<String> commands, Path place) throws IOException, InterruptedException {
        List<String> said = new ArrayList<>();
        for (String command : commands) {
            Process run = new ProcessBuilder("sh", "-c", command)
                    .directory(place.toFile()).redirectErrorStream(true).start();
            String all = new String(run.getInputStream().readAllBytes());
            said.addAll(all.lines().toList());
            int end = run.waitFor();
            expect(command, "ends with 0", "ends with " + end);
        }
        return said;
    }

    /** Each public method stands once in the table of calls, and nothing else does. */
    private void calls() {
        List<String> named = new ArrayList<>();
        for (String row : rowsBehind("| what is done | calls |")) {
            named.addAll(marked(row.substring(row.indexOf('|', 1))));
        }
        List<String> due = Arrays.stream(Cascadum.class.getDeclaredMethods())
                .filter(m -> Modifier.isPublic(m.getModifiers())).map(Method::getName).sorted().toList();
        expect("the calls that README.md names", due.toString(), named.stream().sorted().toList().toString());
    }

    private void tests() throws IOException {
        List<String> named = new ArrayList<>();
        for (String row : rowsBehind("| test | what it looks at |")) {
            named.add(marked(row).get(0));
        }
        List<String> due = found(TESTS).stream().map(p -> p.getFileName().toString())
                .filter(n -> n.endsWith("Tests.java")).map(n -> n.replace(".java", "")).sorted().toList();
        expect("the tests that README.md names", due.toString(), named.stream().sorted().toList().toString());
    }

    /** What stands as `..` and looks like a file or a class of this project is one. */
    private void files() {
        List<String> classes = Arrays.stream(Cascadum.class.getDeclaredClasses()).map(Class::getSimpleName).toList();
        for (String word : marked(text.substring(text.indexOf("## How it works")))) {
            expect("a class inside: " + word, "true", String.valueOf(classes.contains(word)));
        }
        for (String word : marked(text)) {
            if (word.startsWith("../") || word.startsWith("src/")) {
                expect(word + " is there", "true", String.valueOf(Files.exists(Path.of(word))));
            }
        }
        for (String word : List.of("Model.java", "Checks.java")) {
            expect(word + " is named", "true", String.valueOf(marked(text).contains(word)));
            expect(word + " is there", "true", String.valueOf(Files.exists(TESTS.resolve(word))));
        }
    }

    /** The numbers of the sentence on what an object takes, each filled up to its last one. */
    private void bounds() {
        Matcher told = Pattern.compile("takes (\\d+) elements, (\\d+) compounds, (\\d+) selectors, (\\d+) layers, "
                + "(\\d+) rules with (\\d+) selectors and (\\d+) declarations each,\\s+and (\\d+) values").matcher(text);
        expect("what an object takes is told", "true", String.valueOf(told.find()));
        Cascadum x = new Cascadum();
        due("elements", told.group(1), () -> 1 + taken(() -> x.addElement(0, 0, 0, 0)));
        due("compounds", told.group(2), () -> taken(() -> x.compound(-1, 0, 0, false)));
        due("selectors", told.group(3), () -> taken(() -> x.selector(0)));
        due("layers", told.group(4), () -> taken(() -> x.addLayer(0, -1)));
        due("rules", told.group(5), () -> taken(() -> x.addRule(0, -1, 0)));
        due("selectors of a rule", told.group(6), () -> 1 + taken(() -> x.alsoFor(0, 0)));
        due("values", told.group(8), () -> taken(() -> x.value('i', 0, 0)));
        due("declarations", told.group(7), () -> taken(() -> x.declare(0, 0, 0, false)));
    }

    private static int taken(Call call) {
        int count = 0;
        while (count < 100 && !answer(call).equals("throws " + STATE.getName())) {
            count++;
        }
        return count;
    }

    private static List<Path> found(Path place) throws IOException {
        try (Stream<Path> all = Files.list(place)) {
            return all.sorted().collect(Collectors.toList());
        }
    }

    /** The rows of a table, without its head. */
    private List<String> rowsBehind(String head) {
        int from = page.indexOf(head);
        expect("there is a table " + head, "true", String.valueOf(from >= 0));
        List<String> rows = new ArrayList<>();
        for (int i = from + 2; from >= 0 && i < page.size() && page.get(i).startsWith("|"); i++) {
            rows.add(page.get(i));
        }
        return rows;
    }

    private static List<String> marked(String line) {
        List<String> words = new ArrayList<>();
        Matcher word = Pattern.compile("(?<!`)`([^`\n]+)`(?!`)").matcher(line);
        while (word.find()) {
            words.add(word.group(1));
        }
        return words;
    }
}
