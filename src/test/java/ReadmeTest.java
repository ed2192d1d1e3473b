import java.io.IOException;
import java.lang.reflect.Method;
import java.lang.reflect.Modifier;
import java.nio.file.Files;
import java.nio.file.Path;
import java.util.ArrayList;
import java.util.Comparator;
import java.util.List;
import java.util.Set;
import java.util.TreeSet;
import java.util.regex.Matcher;
import java.util.regex.Pattern;
import java.util.stream.Stream;

/**
 * README.md: what it says of the use of the class and of its tests is true. It is run in the project's directory; the
 * commands are run in a copy of it, so that they find and leave nothing there.
 */
public final class ReadmeTest {
    private static final Path README = Path.of("README.md");
    private static final Path EXAMPLE = Path.of("src/example/java/Example.java");
    private static final Path TESTS = Path.of("src/test/java");
    // This very test is run by it: a run of it inside would have no end.
    private static final String ALL_TESTS = ".ci/run";

    // A policy for each part that is a number, to be filled in.
    private static final String[] PARTS = {
        "ROOM sweep # first", "ROOM slide #", "ROOM halves #", "ROOM counts # best", "ROOM steps # worst 1 news",
        "YOUNG ages # 16 1 4", "OLD ages 16 # 1 4", "AGE ages 16 16 # 4", "CARD ages 16 16 1 #",
        "RATE steps 16 first # picture", "SIZE regions 1500 # 0", "SHARE regions 64 16 #"
    };

    public static void main(String[] args) throws IOException, InterruptedException {
        Runs runs = new Runs();
        runs.run("README.md");
        String readme = Files.readString(README);
        example(runs, readme);
        commands(runs, readme);
        policies(runs, readme);
        parts(runs, readme);
        calls(runs, readme);
        tests(runs, readme);
        runs.finish();
    }

    private static void example(Runs runs, String readme) throws IOException {
        runs.expect("the example", blocks(readme, "java").toString(), List.of(Files.readString(EXAMPLE)).toString());
    }

    private static void commands(Runs runs, String readme) throws IOException, InterruptedException {
        runs.expect(ALL_TESTS + " can be run", String.valueOf(Files.isExecutable(Path.of(ALL_TESTS))), "true");
        List<String> commands = blocks(readme, "sh");
        runs.expect("the example, the tests, and one alone", String.valueOf(commands.size()), "3");
        runs.expect("the command for all tests", commands.get(1), ALL_TESTS + "\n");
        runs.expect("what the example prints", printed(runs, commands.get(0)), blocks(readme, "text").get(0));
        runs.expect("what one test prints", printed(runs, commands.get(2)), "all answers are as due\n");
    }

    private static String printed(Runs runs, String commands) throws IOException, InterruptedException {
        Path copy = Files.createTempDirectory("readme");
        try {
            copyAll(Path.of("src"), copy.resolve("src"));
            ProcessBuilder builder = new ProcessBuilder("sh", "-e", "-c", commands);
            Process process = builder.directory(copy.toFile()).redirectErrorStream(true).start();
            String text = new String(process.getInputStream().readAllBytes());
            runs.expect(commands, String.valueOf(process.waitFor()), "0");
            return text;
        } finally {
            removeAll(copy);
        }
    }

    private static void copyAll(Path from, Path to) throws IOException {
        try (Stream<Path> paths = Files.walk(from)) {
            for (Path path : paths.toList()) {
                Files.copy(path, to.resolve(from.relativize(path).toString()));
            }
        }
    }

    private static void removeAll(Path from) throws IOException {
        try (Stream<Path> paths = Files.walk(from)) {
            for (Path path : paths.sorted(Comparator.reverseOrder()).toList()) {
                Files.delete(path);
            }
        }
    }

    /** Each example is of the form beside it, and its heap has as many words as it says. */
    private static void policies(Runs runs, String readme) {
        List<String> rows = rows(readme, "| policy |");
        runs.expect("policies", String.valueOf(rows.size()), "7");
        for (String row : rows) {
            String[] cells = cells(row);
            String text = plain(cells[1]);
            String[] form = plain(cells[0]).split(" ");
            runs.expect(text, text.split(" ")[0] + text.split(" ").length, form[0] + form.length);
            runs.expect(text, heap(text), cells[2]);
        }
    }

    private static void parts(Runs runs, String readme) {
        Set<String> named = new TreeSet<>();
        for (String row : rows(readme, "| part |")) {
            for (String part : plain(cells(row)[0]).split(", ")) {
                named.add(part);
                part(runs, part, cells(row)[1]);
            }
        }
        runs.expect("parts", named.toString(), "[AGE, BARRIER, CARD, FORM, OLD, RATE, ROOM, SHARE, SIZE, YOUNG]");
        runs.expect("a SIZE of a quarter of ROOM", heap("regions 80 20 0"), "80");
        runs.expect("a SIZE above it", heap("regions 80 21 0"), "-12");
    }

    private static void part(Runs runs, String part, String range) {
        if (part.equals("FORM")) {
            for (String form : plain(range).split(", ")) {
                runs.expect(form, heap("sweep 16 " + form), "16");
            }
        } else if (part.equals("BARRIER")) {
            for (String barrier : plain(range).split(", ")) {
                runs.expect(barrier, heap("steps 16 first 1 " + barrier), "16");
            }
        } else {
            String[] ends = range.split(",")[0].split(" \\.\\. ");
            int least = Integer.parseInt(ends[0]);
            int most = Integer.parseInt(ends[1]);
            for (String line : PARTS) {
                if (line.startsWith(part + " ")) {
                    range(runs, line.substring(part.length() + 1), least, most);
                }
            }
        }
    }

    private static void range(Runs runs, String policy, int least, int most) {
        String broken = String.valueOf(-1 - policy.indexOf('#'));
        for (int value : new int[] {least - 1, least, most, most + 1}) {
            String text = policy.replace("#", String.valueOf(value));
            boolean stands = !heap(text).startsWith("-");
            runs.expect(text, String.valueOf(stands), String.valueOf(value >= least && value <= most));
            if (!stands) {
                runs.expect(text, heap(text), broken);
            }
        }
    }

    private static String heap(String policy) {
        return Runs.answer(new CollectorHouse(), "policy " + policy);
    }

    private static void calls(Runs runs, String readme) {
        Set<String> told = new TreeSet<>();
        for (String row : rows(readme, "| call |")) {
            String[] cells = cells(row);
            String call = plain(cells[0]);
            String arguments = call.substring(call.indexOf('(') + 1, call.indexOf(')'));
            int count = arguments.isEmpty() ? 0 : arguments.split(",").length;
            String thrown = cells.length > 2 ? plain(cells[2]) : "";
            told.add(call.substring(0, call.indexOf('(')) + "/" + count + ": " + thrown);
        }
        Set<String> there = new TreeSet<>();
        for (Method method : CollectorHouse.class.getDeclaredMethods()) {
            if (Modifier.isPublic(method.getModifiers())) {
                List<String> thrown = new ArrayList<>();
                for (Class<?> type : method.getExceptionTypes()) {
                    thrown.add(type.getSimpleName());
                }
                there.add(method.getName() + "/" + method.getParameterCount() + ": " + String.join(", ", thrown));
            }
        }
        runs.expect("calls", String.join("\n", told), String.join("\n", there));
    }

    private static void tests(Runs runs, String readme) throws IOException {
        Set<String> named = new TreeSet<>();
        for (String row : rows(readme, "| test |")) {
            named.addAll(List.of(plain(cells(row)[0]).split(", ")));
        }
        Set<String> there = new TreeSet<>();
        try (Stream<Path> paths = Files.list(TESTS)) {
            for (Path path : paths.toList()) {
                String name = path.getFileName().toString();
                if (name.endsWith("Test.java")) {
                    there.add(name.substring(0, name.length() - ".java".length()));
                }
            }
        }
        runs.expect("tests", named.toString(), there.toString());
    }

    /** What stands in fences of that kind. */
    private static List<String> blocks(String readme, String kind) {
        List<String> blocks = new ArrayList<>();
        Matcher matcher = Pattern.compile("(?ms)^```" + kind + "\n(.*?)^```$").matcher(readme);
        while (matcher.find()) {
            blocks.add(matcher.group(1));
        }
        return blocks;
    }

    /** The rows of the table with that head. */
    private static List<String> rows(String readme, String head) {
        List<String> rows = new ArrayList<>();
        String[] lines = readme.split("\n");
        int at = 0;
        while (at < lines.length && !lines[at].startsWith(head)) {
            at++;
        }
        for (at += 2; at < lines.length && lines[at].startsWith("|"); at++) {
            rows.add(lines[at]);
        }
        return rows;
    }

    private static String[] cells(String row) {
        String[] cells = row.substring(1).split("\\|");
        for (int i = 0; i < cells.length; i++) {
            cells[i] = cells[i].strip();
        }
        return cells;
    }

    private static String plain(String cell) {
        return cell.replace("`", "");
    }
}
