import java.lang.reflect.Constructor;
import java.lang.reflect.Field;
import java.lang.reflect.Method;
import java.lang.reflect.Modifier;
import java.nio.file.Files;
import java.nio.file.Path;
import java.util.Arrays;
import java.util.List;
import java.util.Random;
import java.util.Set;
import java.util.TreeSet;
import java.util.regex.Matcher;
import java.util.regex.Pattern;

/** The public face, and those rules of LANGUAGE.md that can be seen from outside or in the text. */
public final class LanguageTest {
    private static final List<String> FACE = List.of(
        "boolean votes(int, int)", "int change(int, int)", "int resume()", "int read(int)",
        "int write(int, long)", "int again(int)", "boolean deliver(int)", "int settle(int)",
        "boolean lose(int)", "boolean twice(int)", "boolean silent(int, boolean)",
        "boolean side(int, int)", "int halt(int)", "int copy(int, int)", "long kept(int)",
        "int client(int, int)", "int air(int, int)", "int act(int, int)", "long value(int)",
        "int table(int, int)", "int about(int)");
    private static final List<String> RULED_OUT = List.of("throw", "throws", "try", "catch", "finally",
        "synchronized", "assert", "import", "package", "protected", "native", "volatile", "transient",
        "double", "float", "System", "Thread", "Random", "Object", "hashCode", "toString", "equals");

    private static final Due due = new Due("LanguageTest");

    public static void main(String[] args) throws Exception {
        face();
        String text = Files.readString(Path.of(args[0]));
        signs(text);
        String code = withoutCommentsAndTexts(text);
        words(code);
        methods(code);
        neverThrows();
        due.end();
    }

    private static String name(Class<?>[] types) {
        return Arrays.toString(types).replace("[", "(").replace("]", ")");
    }

    /** Rule 1, and rule 5 for static fields. */
    private static void face() {
        due.part("rule 1");
        Class<VotedFile> type = VotedFile.class;
        due.is("public and final", type.getModifiers(), Modifier.PUBLIC | Modifier.FINAL);
        Set<String> seen = new TreeSet<>();
        Set<String> names = new TreeSet<>();
        for (Method method : type.getDeclaredMethods()) {
            if (!Modifier.isPrivate(method.getModifiers())) {
                due.is(method + " is public alone", method.getModifiers(), Modifier.PUBLIC);
                seen.add(method.getReturnType() + " " + method.getName() + name(method.getParameterTypes()));
                names.add(method.getName());
            }
        }
        due.is("the methods are the document's: " + seen, seen.equals(new TreeSet<>(FACE)), true);
        due.is("each name once", names.size(), FACE.size());
        for (Method method : type.getDeclaredMethods()) {
            boolean hides = Modifier.isPrivate(method.getModifiers()) && names.contains(method.getName());
            due.is(method + " bears a public method's name", hides, false);
        }
        Constructor<?>[] made = type.getDeclaredConstructors();
        due.is("constructors", made.length, 1);
        due.is("public VotedFile(int)", made[0].toString().equals("public VotedFile(int)"), true);
        for (Field field : type.getDeclaredFields()) {
            int modifiers = field.getModifiers();
            boolean isConstant = field.getName().equals("NONE") && field.getType() == int.class;
            due.is(field + " is private, or NONE", isConstant ? Modifier.isPublic(modifiers)
                : Modifier.isPrivate(modifiers), true);
            due.is(field + " is final if it is static", Modifier.isStatic(modifiers)
                && !Modifier.isFinal(modifiers), false);
        }
        for (Class<?> inside : type.getDeclaredClasses()) {
            due.is(inside + " is static", Modifier.isStatic(inside.getModifiers()), true);
            due.is(inside + " is neither public nor protected", Modifier.isPublic(inside.getModifiers())
                || Modifier.isProtected(inside.getModifiers()), false);
            due.is(inside + " has some twenty fields at most", inside.getDeclaredFields().length <= 20, true);
        }
        due.is("some twelve classes", type.getDeclaredClasses().length <= 11, true);
    }

    private static void signs(String text) {
        due.part("signs");
        for (int i = 0; i < text.length(); i++) {
            char sign = text.charAt(i);
            if (sign != '\n' && (sign < 32 || sign > 126)) {
                due.is("sign " + (int) sign + " at " + i, 0, 1);
            }
        }
    }

    private static String withoutCommentsAndTexts(String text) {
        String noTexts = text.replaceAll("\"(\\\\.|[^\"\\\\\n])*\"", "\"\"");
        return noTexts.replaceAll("(?s)/\\*.*?\\*/", " ").replaceAll("//[^\n]*", " ");
    }

    /** Rules 2, 4, 5, 6 and 13, by the words that they rule out. */
    private static void words(String code) {
        due.part("words");
        for (String word : RULED_OUT) {
            due.is("the word " + word, Pattern.compile("\\b" + word + "\\b").matcher(code).find(), false);
        }
        due.is("a lambda or a new kind of switch", code.contains("->"), false);
        due.is("a method reference", code.contains("::"), false);
        due.is("a static block", Pattern.compile("static\\s*\\{").matcher(code).find(), false);
        due.is("a loop without a counter", Pattern.compile("\\b(while|do)\\b|for\\s*\\(\\s*;").matcher(code).find(),
            false);
    }

    /** Rule 11: seven parameters, some sixty lines. */
    private static void methods(String code) {
        due.part("rule 11");
        Matcher head = Pattern.compile("(?m)^ +(?:[a-zA-Z\\[\\]]+ )*([a-zA-Z]+)\\(([^()]*)\\) \\{$").matcher(code);
        int found = 0;
        while (head.find()) {
            found++;
            String parameters = head.group(2);
            int many = parameters.isBlank() ? 0 : parameters.split(",").length;
            due.is("the parameters of " + head.group(1) + " are seven at most", many <= 7, true);
            int lines = linesOfBody(code, head.end() - 1);
            due.is("the lines of " + head.group(1) + ", " + lines + ", are sixty at most", lines <= 60, true);
        }
        due.is("methods are found", found > 40, true);
    }

    private static int linesOfBody(String code, int open) {
        int depth = 0;
        int lines = 1;
        for (int i = open; i < code.length(); i++) {
            char sign = code.charAt(i);
            lines += sign == '\n' ? 1 : 0;
            depth += sign == '{' ? 1 : sign == '}' ? -1 : 0;
            if (depth == 0) {
                return lines;
            }
        }
        return lines;
    }

    /** Rule 7: any arguments in any state, behind the 512th call too. */
    private static void neverThrows() {
        due.part("rule 7");
        int[] all = {Integer.MIN_VALUE, -1000000, -2, -1, 0, 0, 0, 1, 1, 2, 2, 3, 4, 5, 6, 7, 8, 9, 10, 11, 12, 13,
            14, 15, 16, 17, 199, 200, 201, 299, 300, 301, 1000000, Integer.MAX_VALUE};
        Random random = new Random(7);
        for (int copies : all) {
            VotedFile x = new VotedFile(copies);
            for (int call = 0; call < 20000; call++) {
                int a = all[random.nextInt(all.length)];
                int b = all[random.nextInt(all.length)];
                act(x, random.nextInt(13), a, b);
                ask(x, a, b);
            }
            due.is("about(2) of " + copies, x.about(2) <= 200, true);
            due.is("about(1) of " + copies, x.about(1) <= 16, true);
            due.is("about(3) of " + copies, x.about(3) <= 300, true);
        }
    }

    private static void act(VotedFile x, int call, int a, int b) {
        switch (call) {
            case 0 -> x.votes(a, b);
            case 1 -> x.change(a, b);
            case 2 -> x.resume();
            case 3 -> x.read(a);
            case 4 -> x.write(a, b);
            case 5 -> x.again(a);
            case 6 -> x.deliver(a);
            case 7 -> x.settle(a);
            case 8 -> x.lose(a);
            case 9 -> x.twice(a);
            case 10 -> x.silent(a, b > 2);
            case 11 -> x.side(a, b);
            default -> x.halt(a);
        }
    }

    private static void ask(VotedFile x, int a, int b) {
        x.copy(a, b);
        x.kept(a);
        x.client(a, b);
        x.air(a, b);
        x.act(a, b);
        x.value(a);
        x.table(a, b);
        x.about(a);
    }
}
