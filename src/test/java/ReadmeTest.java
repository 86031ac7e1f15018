import java.io.IOException;
import java.lang.reflect.Method;
import java.lang.reflect.Modifier;
import java.nio.file.DirectoryStream;
import java.nio.file.Files;
import java.nio.file.Path;
import java.util.ArrayList;
import java.util.List;
import java.util.Set;
import java.util.TreeSet;
import java.util.regex.Matcher;
import java.util.regex.Pattern;

/**
 * Takes out what README.md shows and writes it into a directory, where .ci/run compiles and runs it:
 * Use.java with commands.sh and due.txt, which is what these must print, and ReadmeRuns.java, in which
 * each line of the examples is held against the answer behind it.
 */
public final class ReadmeTest {
    private static final Pattern MADE = Pattern.compile("VotedFile file = new VotedFile\\(\\d+\\);( +//.*)?");
    private static final Pattern CALL = Pattern.compile(
        "(?:(int|long|boolean) (\\w+) = )?(file\\.(\\w+)\\([^;]*\\));( +// (-?\\d+|true|false|NONE)(?:: .*)?)?");

    private static final Due due = new Due("ReadmeTest");
    private static final Set<String> shown = new TreeSet<>();

    /** A part of the page between two fences. */
    private record Block(String kind, int firstLine, List<String> lines) {
        String text() {
            return String.join("\n", lines) + "\n";
        }
    }

    public static void main(String[] args) throws IOException {
        Path readme = Path.of(args[1]);
        Path out = Path.of(args[2]);
        List<String> lines = Files.readAllLines(readme);
        List<Block> blocks = blocks(lines);
        program(blocks, out);
        Files.writeString(out.resolve("ReadmeRuns.java"), examples(blocks));
        eachCallIsShown(String.join("\n", lines));
        eachTestIsNamed(String.join("\n", lines), readme.resolveSibling("src/test/java"));
        due.end();
    }

    private static List<Block> blocks(List<String> lines) {
        List<Block> found = new ArrayList<>();
        Block open = null;
        for (int i = 0; i < lines.size(); i++) {
            String line = lines.get(i);
            if (!line.startsWith("```")) {
                if (open != null) {
                    open.lines.add(line);
                }
            } else if (open == null) {
                open = new Block(line.substring(3), i + 2, new ArrayList<>());
            } else {
                found.add(open);
                open = null;
            }
        }
        due.part("the page");
        due.is("each fence that opens closes", open == null, true);
        return found;
    }

    private static boolean isProgram(Block block) {
        return block.text().contains("class Use ");
    }

    /** The program, how it is run, and what it prints: the only parts of their kinds. */
    private static void program(List<Block> blocks, Path out) throws IOException {
        due.part("the program");
        int programs = 0;
        int commands = 0;
        int printed = 0;
        for (Block block : blocks) {
            if (block.kind.equals("java") && isProgram(block)) {
                Files.writeString(out.resolve("Use.java"), block.text());
                programs++;
            } else if (block.kind.equals("sh")) {
                Files.writeString(out.resolve("commands.sh"), block.text());
                commands++;
            } else if (block.kind.equals("text")) {
                Files.writeString(out.resolve("due.txt"), block.text());
                printed++;
            } else {
                due.is("line " + block.firstLine + " is Java", block.kind.equals("java"), true);
            }
        }
        due.is("one program", programs, 1);
        due.is("one way to run it", commands, 1);
        due.is("one text that it prints", printed, 1);
    }

    private static String examples(List<Block> blocks) {
        due.part("the examples");
        StringBuilder methods = new StringBuilder();
        StringBuilder calls = new StringBuilder();
        int many = 0;
        for (Block block : blocks) {
            if (block.kind.equals("java") && !isProgram(block)) {
                many++;
                calls.append("        example").append(many).append("();\n");
                methods.append(example(block, many));
            }
        }
        due.is("there are examples", many > 0, true);
        return "final class ReadmeRuns {\n    private static final Due due = new Due(\"README.md\");\n\n"
            + "    public static void main(String[] args) {\n" + calls + "        due.end();\n    }\n" + methods + "}\n";
    }

    private static String example(Block block, int number) {
        StringBuilder text = new StringBuilder("\n    private static void example" + number + "() {\n");
        for (int i = 0; i < block.lines.size(); i++) {
            String line = block.lines.get(i).strip();
            Matcher call = CALL.matcher(line);
            if (call.matches()) {
                text.append(call(call, "line " + (block.firstLine + i)));
            } else {
                due.is("'" + line + "' makes an object or is a call with its answer",
                    MADE.matcher(line).matches(), true);
                text.append("        ").append(line).append('\n');
            }
        }
        return text.append("    }\n").toString();
    }

    private static String call(Matcher call, String where) {
        due.is(where + ": " + call.group(3) + " has its answer", call.group(5) != null, true);
        shown.add(call.group(4));
        String answer = "NONE".equals(call.group(6)) ? "VotedFile.NONE" : call.group(6);
        String name = "\"" + where + ": " + call.group(3) + "\"";
        if (call.group(2) == null) {
            return "        due.is(" + name + ", " + call.group(3) + ", " + answer + ");\n";
        }
        return "        " + call.group(1) + " " + call.group(2) + " = " + call.group(3) + ";\n"
            + "        due.is(" + name + ", " + call.group(2) + ", " + answer + ");\n";
    }

    private static void eachCallIsShown(String page) {
        due.part("the calls");
        for (Method method : VotedFile.class.getDeclaredMethods()) {
            if (Modifier.isPublic(method.getModifiers())) {
                String name = method.getName();
                due.is(name + " is used in an example", shown.contains(name), true);
                due.is(name + " is in the list of the calls", page.contains("`" + name + "("), true);
            }
        }
    }

    private static void eachTestIsNamed(String page, Path tests) throws IOException {
        due.part("the tests");
        Set<String> there = new TreeSet<>();
        try (DirectoryStream<Path> files = Files.newDirectoryStream(tests, "*Test.java")) {
            for (Path file : files) {
                there.add(file.getFileName().toString().replace(".java", ""));
            }
        }
        Set<String> named = new TreeSet<>();
        Matcher name = Pattern.compile("`(\\w+Test)`").matcher(page);
        while (name.find()) {
            named.add(name.group(1));
        }
        due.is("the page names " + named + ", there are " + there, named.equals(there), true);
    }
}
