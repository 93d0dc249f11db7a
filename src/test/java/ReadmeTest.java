import java.io.IOException;
import java.nio.file.Files;
import java.nio.file.Path;
import java.util.ArrayList;
import java.util.List;
import java.util.Set;
import java.util.TreeSet;
import java.util.concurrent.TimeUnit;
import java.util.regex.Matcher;
import java.util.regex.Pattern;
import java.util.stream.Stream;

/** What README.md says works as it is written: its program, its commands, its tables and its list of tests. */
public final class ReadmeTest {
    private static int wrong = 0;

    public static void main(String[] args) throws Exception {
        String readme = Files.readString(Path.of("README.md"));
        theCommandsWork(readme);
        allCallsAreTold(readme);
        theKindsAreThose(readme);
        allTestsAreTold(readme);
        System.out.println(wrong == 0 ? "the README holds" : wrong + " things are not as the README says");
        if (wrong != 0) {
            System.exit(1);
        }
    }

    private static void is(String what, Object got, Object due) {
        if (!got.equals(due)) {
            wrong++;
            System.out.println(what + " is " + got + ", due is " + due);
        }
    }

    /** What stands between the fences of that kind, block by block. */
    private static List<String> blocks(String readme, String kind) {
        List<String> blocks = new ArrayList<>();
        Matcher fences = Pattern.compile("```" + kind + "\n(.*?)```\n", Pattern.DOTALL).matcher(readme);
        while (fences.find()) {
            blocks.add(fences.group(1));
        }
        return blocks;
    }

    private static void theCommandsWork(String readme) throws Exception {
        List<String> programs = blocks(readme, "java");
        List<String> commands = blocks(readme, "sh");
        List<String> prints = blocks(readme, "text");
        is("how many programs", programs.size(), 1);
        is("how many blocks of commands", commands.size(), 3);
        is("how many prints", prints.size(), 1);
        if (wrong > 0) {
            return;
        }
        Path folder = Files.createTempDirectory("readme");
        copyJava("src/main/java", folder);
        copyJava("src/test/java", folder);
        Files.writeString(folder.resolve("Example.java"), programs.get(0));
        is("what the example prints", printOf(commands.get(0), folder), prints.get(0));
        // that is what runs this test, so it is not run again from here
        is("the command for all tests", commands.get(1), ".ci/run\n");
        is(".ci/run can be run", Files.isExecutable(Path.of(".ci/run")), true);
        is("what one test alone prints", printOf(commands.get(2), folder), "all promises hold\n");
        remove(folder);
    }

    private static void copyJava(String from, Path folder) throws IOException {
        Files.createDirectories(folder.resolve(from));
        for (Path file : filesOf(Path.of(from))) {
            Files.copy(file, folder.resolve(file));
        }
    }

    private static List<Path> filesOf(Path folder) throws IOException {
        try (Stream<Path> files = Files.list(folder)) {
            return files.sorted().toList();
        }
    }

    private static void remove(Path folder) throws IOException {
        try (Stream<Path> found = Files.walk(folder)) {
            // what is inside a folder comes behind it, so it goes first
            List<Path> all = new ArrayList<>(found.toList());
            for (int i = all.size() - 1; i >= 0; i--) {
                Files.delete(all.get(i));
            }
        }
    }

    private static String printOf(String commands, Path folder) throws Exception {
        Path print = folder.resolve("print");
        Process shell = new ProcessBuilder("sh", "-e", "-c", commands)
            .directory(folder.toFile()).redirectErrorStream(true).redirectOutput(print.toFile()).start();
        boolean isOver = shell.waitFor(5, TimeUnit.MINUTES);
        if (!isOver) {
            shell.destroyForcibly();
        }
        is("the exit code of " + commands, isOver ? shell.exitValue() : "none", 0);
        return Files.readString(print);
    }

    /** The table has a row for each method of the face, with its arguments in their order. */
    private static void allCallsAreTold(String readme) throws IOException {
        Set<String> due = new TreeSet<>();
        Matcher face = Pattern.compile("    public \\w+ (\\w+)\\((.*?)\\)").matcher(Files.readString(Path.of("../shared/DOC.md")));
        while (face.find()) {
            due.add(face.group(1) + "(" + face.group(2).replaceAll("\\w+ (\\w+)", "$1") + ")");
        }
        Set<String> told = new TreeSet<>();
        Matcher rows = Pattern.compile("\n\\| `(.*?)` \\|").matcher(readme);
        while (rows.find()) {
            told.add(rows.group(1));
        }
        is("how many calls the document's face has", due.size(), 25);
        is("the table of calls", told, due);
    }

    /** Of each kind the table's numbers are taken, and those next to them are not. */
    private static void theKindsAreThose(String readme) {
        Matcher rows = Pattern.compile("\n\\| (\\d+) \\| ([A-Z]+) \\| (\\d+)(?: to (\\d+))? \\|").matcher(readme);
        int kinds = 0;
        while (rows.find()) {
            int kind = Integer.parseInt(rows.group(1));
            int least = Integer.parseInt(rows.group(3));
            int most = rows.group(4) == null ? least : Integer.parseInt(rows.group(4));
            is("the kind in row " + kinds, kind, kinds);
            is(rows.group(2) + " of " + least, takes(kind, least), true);
            is(rows.group(2) + " of " + most, takes(kind, most), true);
            is(rows.group(2) + " of " + (least - 1), takes(kind, least - 1), false);
            is(rows.group(2) + " of " + (most + 1), takes(kind, most + 1), false);
            kinds++;
        }
        is("how many kinds the table has", kinds, 11);
        is("one more kind", takes(kinds, 0), false);
    }

    private static boolean takes(int kind, int number) {
        try {
            new Diffractory().part(kind, number);
            return true;
        } catch (IllegalArgumentException e) {
            return false;
        }
    }

    private static void allTestsAreTold(String readme) throws IOException {
        Set<String> due = new TreeSet<>();
        for (Path file : filesOf(Path.of("src/test/java"))) {
            String name = file.getFileName().toString();
            if (name.endsWith("Test.java")) {
                due.add(name.replace(".java", ""));
            }
        }
        Set<String> told = new TreeSet<>();
        Matcher items = Pattern.compile("\n- `(\\w+)`:").matcher(readme);
        while (items.find()) {
            told.add(items.group(1));
        }
        is("the list of tests", told, due);
    }
}
