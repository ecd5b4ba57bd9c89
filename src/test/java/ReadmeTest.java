import java.io.IOException;
import java.lang.reflect.InvocationTargetException;
import java.lang.reflect.Method;
import java.lang.reflect.Modifier;
import java.net.URISyntaxException;
import java.nio.file.Files;
import java.nio.file.Path;
import java.util.ArrayList;
import java.util.List;
import java.util.Set;
import java.util.TreeSet;
import java.util.regex.Matcher;
import java.util.regex.Pattern;
import javax.tools.JavaCompiler;
import javax.tools.ToolProvider;

/** The calls that README.md shows, compiled as they stand there: each answers what is named behind it. */
public final class ReadmeTest {
    private static final String MADE = "ReadmeCalls";
    private static final String HEAD = "final class " + MADE + " { static void run() {\n";
    private static final String FIRST = "GridVault vault = new GridVault();";
    private static final Pattern CALL =
            Pattern.compile("((?:int|long) (\\w+) = )?(vault\\.(\\w+)\\([\\w, -]*\\));(?: +// (.*))?");
    private static final Pattern NUMBER = Pattern.compile("(-?\\d+)(?:: .*)?");
    private static final Pattern THROWS = Pattern.compile("throws (\\w+)(?:: .*)?");

    private final List<String> code = new ArrayList<>();
    private final Set<String> shown = new TreeSet<>();
    private final Set<String> silent = new TreeSet<>();
    private final Set<String> face = new TreeSet<>();

    public static void main(String[] args) throws IOException, ReflectiveOperationException, URISyntaxException {
        ReadmeTest test = new ReadmeTest();
        test.readFace();
        test.readCalls(Files.readAllLines(Path.of("README.md")));
        Check.due("calls shown: " + test.shown + ", due is " + test.face, test.shown.equals(test.face));
        test.runCalls();
        Check.end();
    }

    private void readFace() {
        for (Method m : GridVault.class.getDeclaredMethods()) {
            if (Modifier.isPublic(m.getModifiers())) {
                face.add(m.getName());
                if (m.getReturnType() == void.class) {
                    silent.add(m.getName());
                }
            }
        }
    }

    private void readCalls(List<String> lines) {
        boolean inside = false;
        for (String line : lines) {
            if (line.startsWith("```")) {
                inside = line.equals("```java");
            } else if (inside) {
                readLine(line);
            }
        }
    }

    private void readLine(String line) {
        Matcher call = CALL.matcher(line);
        if (call.matches()) {
            shown.add(call.group(4));
            readCall(call.group(1), call.group(2), call.group(3), call.group(4), call.group(5));
        } else if (line.startsWith(FIRST)) {
            code.add(line);
        } else {
            Check.wrong("README.md has a line that is no call: " + line);
        }
    }

    private void readCall(String kept, String keptName, String call, String name, String comment) {
        String told = comment == null ? "" : comment;
        Matcher number = NUMBER.matcher(told);
        Matcher thrown = THROWS.matcher(told);
        if (thrown.matches()) {
            code.add("Check.throwing(\"" + call + "\", " + thrown.group(1) + ".class, () -> " + call + ");");
        } else if (!number.matches()) {
            Check.due(call + " has its answer named", silent.contains(name));
            code.add(call + ";");
        } else if (kept == null) {
            code.add("Check.due(\"" + call + "\", " + call + ", " + number.group(1) + "L);");
        } else {
            code.add(kept + call + ";");
            code.add("Check.due(\"" + call + "\", " + keptName + ", " + number.group(1) + "L);");
        }
    }

    /** They are compiled into the folder that this class came from: there they are found, and find Check. */
    private void runCalls() throws IOException, ReflectiveOperationException, URISyntaxException {
        Path folder = Path.of(ReadmeTest.class.getProtectionDomain().getCodeSource().getLocation().toURI());
        Path source = folder.resolve(MADE + ".java");
        Files.writeString(source, HEAD + String.join("\n", code) + "\n}}\n");
        JavaCompiler compiler = ToolProvider.getSystemJavaCompiler();
        int exit = compiler == null ? -1 : compiler.run(null, null, null,
                "-cp", folder.toString(), "-d", folder.toString(), source.toString());
        Check.due("the compiler's exit code", exit, 0);
        if (exit == 0) {
            run(Class.forName(MADE).getDeclaredMethod("run"));
        }
    }

    private void run(Method calls) throws IllegalAccessException {
        try {
            calls.invoke(null);
        } catch (InvocationTargetException e) {
            Check.wrong(lineOf(e.getCause()) + " throws " + e.getCause());
        }
    }

    private String lineOf(Throwable thrown) {
        for (StackTraceElement frame : thrown.getStackTrace()) {
            if (frame.getClassName().equals(MADE)) {
                return code.get(frame.getLineNumber() - HEAD.split("\n").length - 1);
            }
        }
        return "a call";
    }
}
