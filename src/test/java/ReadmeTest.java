import java.io.File;
import java.io.IOException;
import java.lang.reflect.Method;
import java.lang.reflect.Modifier;
import java.net.URL;
import java.net.URLClassLoader;
import java.nio.file.Files;
import java.nio.file.Path;
import java.util.ArrayList;
import java.util.List;
import java.util.function.Supplier;
import java.util.regex.Matcher;
import java.util.regex.Pattern;
import javax.tools.ToolProvider;

/** What README.md shows of calls and answers is what the class does, and it names each call of the face. */
public final class ReadmeTest {
    private static final Due due = new Due();
    /** A call, with the variable that is made of it if there is one, and the answer up to a colon. */
    private static final Pattern LINE = Pattern.compile("(?:\\w+ (\\w+) = )?([^;]+);\\s*(?://\\s*([^:]+)(?::.*)?)?");
    private static final String PROGRAM = "ReadmeCalls";

    private final List<String> lines;

    private ReadmeTest(List<String> lines) {
        this.lines = lines;
    }

    public static void main(String[] args) throws Exception {
        ReadmeTest readme = new ReadmeTest(Files.readAllLines(Path.of("README.md")));
        List<String> shown = readme.shownCalls();
        compareAnswers(shown);
        for (Method method : Probeweb.class.getDeclaredMethods()) {
            if (Modifier.isPublic(method.getModifiers())) {
                due.is("README shows " + method.getName(), isCalled(method.getName(), shown), true);
                readme.compareRow(method);
            }
        }
        due.end();
    }

    /** The lines between ```java and ```, one run of calls from the first such block to the last. */
    private List<String> shownCalls() {
        List<String> shown = new ArrayList<>();
        boolean isCode = false;
        for (String line : lines) {
            if (line.startsWith("```")) {
                isCode = line.equals("```java");
            } else if (isCode) {
                shown.add(line);
            }
        }
        return shown;
    }

    private static boolean isCalled(String name, List<String> shown) {
        for (String line : shown) {
            if (line.contains("." + name + "(")) {
                return true;
            }
        }
        return false;
    }

    /** All but the lines that make an object have an answer. */
    private static void compareAnswers(List<String> shown) throws Exception {
        List<String> dueAnswers = new ArrayList<>();
        StringBuilder program = new StringBuilder("import java.util.*;\npublic final class " + PROGRAM
                + " implements java.util.function.Supplier<List<String>> {\npublic List<String> get() {\n"
                + "List<String> answers = new ArrayList<>();\n");
        for (String line : shown) {
            Matcher parts = LINE.matcher(line);
            boolean isCall = parts.matches() && (parts.group(3) != null || parts.group(2).startsWith("new "));
            due.is("README tells call and answer in: " + line, isCall, true);
            if (isCall && parts.group(3) == null) {
                program.append(line).append('\n');
            } else if (isCall) {
                program.append(answering(parts.group(1), parts.group(2)));
                dueAnswers.add(parts.group(3).trim());
            }
        }
        List<String> answers = run(program.append("return answers;\n}\n}\n").toString());
        due.is("answers of what README shows", answers.size(), dueAnswers.size());
        for (int i = 0; i < Math.min(answers.size(), dueAnswers.size()); i++) {
            String[] callAndAnswer = answers.get(i).split("\n");
            due.is("README: " + callAndAnswer[0], callAndAnswer[1], dueAnswers.get(i));
        }
    }

    private static String answering(String variable, String call) {
        String tells = "answers.add(\"" + call + "\\n\" + ";
        if (variable != null) {
            return "int " + variable + " = " + call + ";\n" + tells + variable + ");\n";
        }
        return "try {\n" + tells + call + ");\n} catch (RuntimeException thrown) {\n"
                + tells + "\"throws \" + thrown.getClass().getSimpleName());\n}\n";
    }

    @SuppressWarnings("unchecked")
    private static List<String> run(String program) throws Exception {
        Path directory = Files.createTempDirectory("readme");
        directory.toFile().deleteOnExit();
        File source = temporary(directory, PROGRAM + ".java");
        File compiled = temporary(directory, PROGRAM + ".class");
        Files.writeString(source.toPath(), program);
        String classPath = System.getProperty("java.class.path");
        int exit = ToolProvider.getSystemJavaCompiler().run(null, null, null, "-cp", classPath, source.getPath());
        due.is("what README shows compiles", exit == 0 && compiled.exists(), true);
        if (exit != 0) {
            return List.of();
        }
        try (URLClassLoader loader = new URLClassLoader(new URL[] {directory.toUri().toURL()})) {
            Object made = loader.loadClass(PROGRAM).getDeclaredConstructor().newInstance();
            return ((Supplier<List<String>>) made).get();
        }
    }

    private static File temporary(Path directory, String name) throws IOException {
        File file = directory.resolve(name).toFile();
        file.deleteOnExit();
        return file;
    }

    /** A row of the tables: the call with as many arguments, the type of its answer, and what it throws. */
    private void compareRow(Method method) {
        String name = method.getName();
        String[] cells = row(name).split("\\|");
        due.is("README has a row of " + name, cells.length, 5);
        if (cells.length == 5) {
            String list = cells[1].replaceAll(".*\\(|\\).*", "");
            int arguments = list.isEmpty() ? 0 : list.split(",").length;
            due.is("README: arguments of " + name, arguments, method.getParameterCount());
            String type = "`" + method.getReturnType().getSimpleName() + "`:";
            due.is("README: answer of " + name, cells[3].trim().split(" ")[0], type);
            due.is("README: what " + name + " throws", cells[4].trim(), thrown(method));
        }
    }

    private String row(String name) {
        for (String line : lines) {
            if (line.startsWith("| `" + name + "(")) {
                return line;
            }
        }
        return "";
    }

    /** The README's words for the exceptions: index, argument and state. */
    private static String thrown(Method method) {
        List<String> words = new ArrayList<>();
        for (Class<?> type : method.getExceptionTypes()) {
            String name = type.getSimpleName();
            words.add(name.startsWith("Index") ? "index" : name.startsWith("IllegalA") ? "argument" : "state");
        }
        return String.join(", ", words);
    }
}
