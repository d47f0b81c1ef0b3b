import java.io.IOException;
import java.lang.reflect.Method;
import java.lang.reflect.Modifier;
import java.net.URL;
import java.net.URLClassLoader;
import java.nio.file.DirectoryStream;
import java.nio.file.Files;
import java.nio.file.Path;
import java.util.ArrayList;
import java.util.Comparator;
import java.util.List;
import java.util.regex.Matcher;
import java.util.regex.Pattern;
import java.util.stream.Stream;
import javax.tools.JavaCompiler;
import javax.tools.ToolProvider;

/** What README.md shows is what the class answers, and it names every test; asked from the project's folder. */
public final class ReadmeTest {
    private static final Check check = new Check();
    private static final Pattern ANSWERED = Pattern.compile("post\\.\\w+\\([^;]*\\);\\s+// (-?\\d+)(: .*)?");
    private static final Pattern CALL = Pattern.compile("post\\.(\\w+)\\(");

    public static void main(String[] args) throws Exception {
        String readme = Files.readString(Path.of("README.md"));
        List<String> run = blockOf(readme, "java");
        everyCallIsShown(run);
        answersAsShown(run);
        everyTestIsNamed(readme);
        check.end();
    }

    private static List<String> blockOf(String readme, String kind) {
        int start = readme.indexOf("```" + kind + "\n");
        int end = readme.indexOf("\n```\n", start);
        if (start < 0 || end < 0) {
            throw new IllegalStateException("README.md shows no " + kind);
        }
        return readme.substring(start, end).lines().skip(1).toList();
    }

    private static void everyCallIsShown(List<String> run) {
        check.promise("README.md");
        List<String> shown = new ArrayList<>();
        for (String line : run) {
            Matcher call = CALL.matcher(line);
            while (call.find()) {
                shown.add(call.group(1));
            }
        }
        for (Method method : WaitedPost.class.getDeclaredMethods()) {
            if (Modifier.isPublic(method.getModifiers())) {
                check.due("a run with " + method.getName() + "()", shown.contains(method.getName()));
            }
        }
    }

    /** The run as a class whose run() gives, in order, what each call that tells an answer has answered. */
    private static String asClass(List<String> run, List<String> calls, List<Long> answers) {
        StringBuilder code = new StringBuilder("public final class ReadmeRun { public static long[] run() {\n");
        code.append("java.util.List<Long> got = new java.util.ArrayList<>();\n");
        for (String line : run) {
            Matcher answered = ANSWERED.matcher(line.strip());
            if (answered.matches()) {
                String call = line.substring(0, line.indexOf(';')).strip();
                calls.add(call);
                answers.add(Long.parseLong(answered.group(1)));
                code.append("got.add((long) ").append(call).append(");\n");
            } else {
                check.due("'" + line + "' shows its answer", !CALL.matcher(line).find()
                    || line.strip().startsWith("post.write("));
                code.append(line).append('\n');
            }
        }
        code.append("return got.stream().mapToLong(Long::longValue).toArray(); } }\n");
        return code.toString();
    }

    private static void answersAsShown(List<String> run) throws Exception {
        List<String> calls = new ArrayList<>();
        List<Long> answers = new ArrayList<>();
        String code = asClass(run, calls, answers);
        check.due("README.md shows answers", !calls.isEmpty());
        Path folder = Files.createTempDirectory("readme");
        try {
            Path file = folder.resolve("ReadmeRun.java");
            Files.writeString(file, code);
            JavaCompiler javac = ToolProvider.getSystemJavaCompiler();
            String path = System.getProperty("java.class.path");
            int failed = javac.run(null, null, null, "-cp", path, "-d", folder.toString(), file.toString());
            check.due("what README.md shows compiles", failed, 0);
            if (failed == 0) {
                long[] got = ran(folder);
                for (int i = 0; i < got.length; i++) {
                    check.due(calls.get(i), got[i], answers.get(i));
                }
            }
        } finally {
            remove(folder);
        }
    }

    private static long[] ran(Path folder) throws Exception {
        try (URLClassLoader loader = new URLClassLoader(new URL[] {folder.toUri().toURL()})) {
            return (long[]) loader.loadClass("ReadmeRun").getMethod("run").invoke(null);
        }
    }

    private static void remove(Path folder) throws IOException {
        try (Stream<Path> all = Files.walk(folder)) {
            for (Path path : all.sorted(Comparator.reverseOrder()).toList()) {
                Files.delete(path);
            }
        }
    }

    private static void everyTestIsNamed(String readme) throws IOException {
        try (DirectoryStream<Path> tests = Files.newDirectoryStream(Path.of("src/test/java"), "*Test.java")) {
            for (Path test : tests) {
                String name = test.getFileName().toString().replace(".java", "");
                check.due("README.md names " + name, readme.contains("| " + name + " |"));
            }
        }
        Matcher named = Pattern.compile("\\| (\\w+Test) \\|").matcher(readme);
        while (named.find()) {
            Path test = Path.of("src/test/java", named.group(1) + ".java");
            check.due("there is " + test, Files.exists(test));
        }
    }
}
