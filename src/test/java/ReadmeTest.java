import java.io.File;
import java.io.IOException;
import java.lang.reflect.Method;
import java.lang.reflect.Modifier;
import java.net.URL;
import java.net.URLClassLoader;
import java.nio.file.Files;
import java.nio.file.Path;
import java.util.ArrayList;
import java.util.List;
import java.util.regex.Matcher;
import java.util.regex.Pattern;
import javax.tools.JavaCompiler;
import javax.tools.ToolProvider;

/** README.md's examples compile as they stand, and each call answers as the comment behind it says. */
public final class ReadmeTest {
    private static final Due DUE = new Due("ReadmeTest");
    private static final String SHOWN = "ReadmeShown";
    private static final String BEGINNING = "CordBay bay = new CordBay();";
    private static final int MOST_CALLS = 512;
    // An answer, then nothing, or a colon and words: "bay.block(4);  // 0: done".
    private static final Pattern LINE =
        Pattern.compile("(?:(?:int|double|boolean) (\\w+) = )?(bay\\.(\\w+)\\([^;]*\\)); *// (\\S+?)(?:: \\S.*)?");

    private record Shown(String line, String name, String call, String method, String answer) { }

    public static void main(String[] args) throws Exception {
        List<List<String>> examples = examples(Files.readAllLines(Path.of("README.md")));
        DUE.is("README.md has examples", !examples.isEmpty(), true);
        List<List<Shown>> read = new ArrayList<>();
        for (List<String> example : examples) {
            read.add(callsOf(example));
        }
        everyCallIsShown(read);
        Path room = Files.createTempDirectory("readme");
        try {
            doTheCalls(room, examples, read);
        } finally {
            remove(room.toFile());
        }
        DUE.end();
    }

    private static List<List<String>> examples(List<String> lines) {
        List<List<String>> found = new ArrayList<>();
        List<String> open = null;
        for (String line : lines) {
            if (open == null && line.equals("```java")) {
                open = new ArrayList<>();
            } else if (open != null && line.equals("```")) {
                found.add(open);
                open = null;
            } else if (open != null) {
                open.add(line);
            }
        }
        DUE.is("the last example ends", open == null, true);
        return found;
    }

    /** The calls of one example; a line that is neither a call with its answer nor a bay's beginning is wrong. */
    private static List<Shown> callsOf(List<String> example) {
        DUE.is("an example begins with a new bay: " + example.get(0), example.get(0).equals(BEGINNING), true);
        List<Shown> calls = new ArrayList<>();
        for (String line : example.subList(1, example.size())) {
            Matcher matcher = LINE.matcher(line);
            boolean isCall = matcher.matches();
            DUE.is("a call and its answer, or nothing: " + line, isCall || line.isEmpty(), true);
            if (isCall) {
                calls.add(new Shown(line, matcher.group(1), matcher.group(2), matcher.group(3), matcher.group(4)));
            }
        }
        DUE.is("an example has at most 512 calls", calls.size() <= MOST_CALLS, true);
        return calls;
    }

    private static void everyCallIsShown(List<List<Shown>> read) {
        for (Method method : CordBay.class.getDeclaredMethods()) {
            if (Modifier.isPublic(method.getModifiers())) {
                boolean shown = read.stream().flatMap(List::stream).anyMatch(s -> s.method().equals(method.getName()));
                DUE.is("README.md shows " + method.getName(), shown, true);
            }
        }
    }

    private static void doTheCalls(Path room, List<List<String>> examples, List<List<Shown>> read) throws Exception {
        Path file = room.resolve(SHOWN + ".java");
        Files.writeString(file, source(examples, read));
        JavaCompiler compiler = ToolProvider.getSystemJavaCompiler();
        if (compiler == null) {
            throw new IOException("there is no javac beside this java");
        }
        int result = compiler.run(null, null, null, "--release", "17", "-proc:none", "-cp",
            System.getProperty("java.class.path"), "-d", room.toString(), file.toString());
        DUE.is("javac of README.md's examples", result, 0);
        if (result != 0) {
            return;
        }
        try (URLClassLoader loader = new URLClassLoader(new URL[] {room.toUri().toURL()})) {
            Class<?> shown = loader.loadClass(SHOWN);
            for (int e = 0; e < read.size(); e++) {
                String[] answers = (String[]) shown.getMethod("answers" + e).invoke(null);
                DUE.is("answers of example " + e, answers.length, read.get(e).size());
                for (int i = 0; i < answers.length; i++) {
                    DUE.is("README.md: " + read.get(e).get(i).line(), answers[i], read.get(e).get(i).answer());
                }
            }
        }
    }

    /** Each example twice: word for word, so that it compiles as it is shown, and with its answers gathered. */
    private static String source(List<List<String>> examples, List<List<Shown>> read) {
        StringBuilder text = new StringBuilder("public final class " + SHOWN + " {\n");
        for (int e = 0; e < examples.size(); e++) {
            text.append("static void shown").append(e).append("() {\n");
            text.append(String.join("\n", examples.get(e))).append("\n}\n");
            text.append("public static String[] answers").append(e).append("() {\n").append(BEGINNING).append('\n');
            text.append("String[] answers = new String[").append(read.get(e).size()).append("];\n");
            for (int i = 0; i < read.get(e).size(); i++) {
                text.append(gathered(read.get(e).get(i), i)).append('\n');
            }
            text.append("return answers;\n}\n");
        }
        return text.append("}\n").toString();
    }

    private static String gathered(Shown shown, int i) {
        String gather = "answers[" + i + "] = String.valueOf(";
        if (shown.name() == null) {
            return gather + shown.call() + ");";
        }
        return shown.line() + "\n" + gather + shown.name() + ");";
    }

    private static void remove(File file) {
        File[] inside = file.listFiles();
        if (inside != null) {
            for (File one : inside) {
                remove(one);
            }
        }
        file.delete();
    }
}
