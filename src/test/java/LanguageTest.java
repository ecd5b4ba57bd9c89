import java.io.IOException;
import java.lang.reflect.Constructor;
import java.lang.reflect.Field;
import java.lang.reflect.Method;
import java.lang.reflect.Modifier;
import java.nio.file.Files;
import java.nio.file.Path;
import java.util.Arrays;
import java.util.Set;
import java.util.TreeSet;

/** The public face, and those rules of LANGUAGE.md that a look at the class or at its text can tell. */
public final class LanguageTest {
    private static final String I = "IllegalArgumentException";
    private static final String O = "IndexOutOfBoundsException";
    private static final String U = "UnsupportedOperationException";
    private static final String[] FACE = {
        "void begin(int,int,int,int,int,int,int) " + I + " IllegalStateException",
        "void put(int,int,int,long) " + O, "void erase(int,int,int) " + O, "void fill(int,int,int,long) " + I,
        "int commit() " + O, "void open(int) " + I, "int version(int,int) " + I, "int differ(int,int) " + I,
        "int read(int) " + I + " " + O,
        made("sub(int,int,int,int)"), made("slice(int,int,int)"), made("extend(int,int,int,int)"),
        made("apply(int,int,long)"), made("filter(int,int,long)"), made("join(int,int,int)"),
        made("gather(int,int,int)"), made("regrid(int,int,int,int)"), made("window(int,int,int,int)"),
        made("swap(int,int,int)"), made("product(int,int)"),
        "int shape(int,int) " + I, "long cell(int,int,int,int) " + I + " " + O + " " + U,
        "long all(int,int) " + I + " " + U, "int count(int) " + I,
    };
    private static final String[] IMPORTS = {"java.util.ArrayList", "java.util.Arrays", "java.util.Iterator",
        "java.util.List", "java.util.NoSuchElementException"};
    private static final String[] THROWN = {"IllegalStateException", I, O, "ArithmeticException", U,
        "NoSuchElementException", "RuntimeException"};
    private static final String[] NEVER = {"::", "finally", "synchronized", "assert ", "static {", "hashCode", "Exact(",
        "ArrayIndexOutOfBoundsException", "NullPointerException", "ClassCastException", "NegativeArraySizeException",
        "ArrayStoreException", "Throwable"};

    public static void main(String[] args) throws IOException {
        face();
        membersInside();
        text(Files.readString(Path.of("src/main/java/GridVault.java")));
        Check.end();
    }

    private static String made(String head) {
        return "int " + head + " " + I + " " + O + " " + U;
    }

    private static String told(Method m) {
        StringBuilder text = new StringBuilder(m.getReturnType().getSimpleName() + " " + m.getName() + "(");
        for (int i = 0; i < m.getParameterCount(); i++) {
            text.append(i == 0 ? "" : ",").append(m.getParameterTypes()[i].getSimpleName());
        }
        text.append(")");
        for (Class<?> thrown : m.getExceptionTypes()) {
            text.append(" ").append(thrown.getSimpleName());
        }
        return text.toString();
    }

    private static void face() {
        int flags = GridVault.class.getModifiers();
        Check.due("public and final", Modifier.isPublic(flags) && Modifier.isFinal(flags));
        Constructor<?>[] constructors = GridVault.class.getDeclaredConstructors();
        Check.due("one constructor", constructors.length == 1 && constructors[0].getParameterCount() == 0
                && Modifier.isPublic(constructors[0].getModifiers()));
        Set<String> got = new TreeSet<>();
        for (Method m : GridVault.class.getDeclaredMethods()) {
            if (!Modifier.isPrivate(m.getModifiers())) {
                got.add(told(m));
            }
        }
        Set<String> want = new TreeSet<>(Arrays.asList(FACE));
        Check.due("the face: " + got + ", due is " + want, got.equals(want));
        for (Field f : GridVault.class.getDeclaredFields()) {
            Check.due(f.getName() + " is private", Modifier.isPrivate(f.getModifiers()));
        }
    }

    private static void membersInside() {
        Set<String> names = new TreeSet<>();
        for (String line : FACE) {
            names.add(line.substring(line.indexOf(' ') + 1, line.indexOf('(')));
        }
        for (Method m : GridVault.class.getDeclaredMethods()) {
            Check.due(m.getName() + " bears no name of the face",
                    !Modifier.isPrivate(m.getModifiers()) || !names.contains(m.getName()));
        }
        Class<?>[] inside = GridVault.class.getDeclaredClasses();
        Check.due("some twelve classes", inside.length + 1 <= 13);
        for (Class<?> c : inside) {
            Check.due(c + " is private or package-visible",
                    !Modifier.isPublic(c.getModifiers()) && !Modifier.isProtected(c.getModifiers()));
            Check.due(c + " has no more than 20 fields", c.getDeclaredFields().length <= 20);
            for (Field f : c.getDeclaredFields()) {
                Check.due(f + " is final if static",
                        !Modifier.isStatic(f.getModifiers()) || Modifier.isFinal(f.getModifiers()));
            }
            for (Method m : c.getDeclaredMethods()) {
                Check.due(m + " bears no name of the face",
                        !Modifier.isPrivate(m.getModifiers()) || !names.contains(m.getName()));
                Check.due(m + " has at most seven parameters", m.getParameterCount() <= 7);
            }
        }
    }

    private static void text(String source) {
        Check.due("characters 0 to 255", source.chars().allMatch(c -> c <= 255));
        String code = source.replaceAll("(?s)/\\*.*?\\*/", "").replaceAll("//.*", "").replaceAll("\"[^\"]*\"", "\"\"");
        Check.due("no package", !code.contains("package "));
        for (String never : NEVER) {
            Check.due("no " + never, !code.contains(never));
        }
        for (String line : code.split("\n")) {
            String told = line.trim();
            Check.due("no lambda: " + told,
                    !told.contains("->") || told.startsWith("case ") || told.startsWith("default "));
            if (told.startsWith("import ")) {
                Check.due(told + " is allowed", Arrays.asList(IMPORTS).contains(told.substring(7, told.length() - 1)));
            }
            if (told.contains("throw ")) {
                Check.due(told + " is allowed", Arrays.stream(THROWN).anyMatch(
                        e -> told.contains("throw new " + e + "();") || told.contains("throw new " + e + "(\"\");")));
            }
        }
    }
}
