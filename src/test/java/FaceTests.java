import java.io.IOException;
import java.lang.reflect.Constructor;
import java.lang.reflect.Executable;
import java.lang.reflect.Field;
import java.lang.reflect.Method;
import java.lang.reflect.Modifier;
import java.nio.file.Files;
import java.nio.file.Path;
import java.util.ArrayList;
import java.util.List;
import java.util.TreeSet;
import java.util.regex.Pattern;

/** The public face of the document, and what LANGUAGE.md asks of members (its rules 1, 5, 6 and 11). */
final class FaceTests {
    private static final String INDEX = " throws java.lang.IndexOutOfBoundsException";
    private static final String BAD = "java.lang.IllegalArgumentException";
    private static final String STATE = "java.lang.IllegalStateException";

    private static final List<String> METHODS = List.of(
            "int addKey(int) throws " + BAD + "," + STATE,
            "int addDoor(int) throws " + BAD + "," + STATE,
            "int setRights(int,int)" + INDEX + "," + BAD,
            "int keyCount()",
            "int doorCount()",
            "int code(int)" + INDEX,
            "int pins(int,int)" + INDEX,
            "boolean opens(int,int)" + INDEX,
            "int openers(int)" + INDEX,
            "int doors(int)" + INDEX,
            "int strays()",
            "int codes(int)" + INDEX,
            "boolean isAbove(int,int)" + INDEX,
            "int work()",
            "int replace(int)" + INDEX,
            "int cut(int)" + INDEX + "," + STATE,
            "int lend(int,int,int)" + INDEX + "," + BAD + "," + STATE,
            "int giveBack(int)" + INDEX + "," + STATE,
            "int lose(int)" + INDEX + "," + STATE,
            "int find(int)" + INDEX + "," + STATE,
            "int pass(int) throws " + BAD + "," + STATE,
            "int today()",
            "int copyCount()",
            "int copy(int,int)" + INDEX,
            "int overdue()",
            "int holderAt(int,int)" + INDEX + "," + BAD,
            "int reach(int)" + INDEX,
            "int risk()",
            "int suggest(int,int)" + INDEX + "," + BAD,
            "double exposure()",
            "long digest()");

    /** What LANGUAGE.md lists. */
    private static final List<String> LIBRARY = List.of("String", "StringBuilder", "ArrayList",
            "List", "Integer", "Long", "Math", "Iterator", "Iterable", "Comparable", "System",
            "Arrays", "IllegalStateException", "IllegalArgumentException",
            "IndexOutOfBoundsException", "ArithmeticException", "UnsupportedOperationException",
            "NoSuchElementException", "RuntimeException");
    private static final List<String> FUNCTIONS = List.of("compare", "max", "min", "abs",
            "bitCount", "floorDiv", "floorMod", "arraycopy", "copyOf", "copyOfRange", "fill");

    private FaceTests() {
    }

    static void addTo(Checks checks) {
        checks.test("the public face: class and constructor", FaceTests::constructor);
        checks.test("the public face: methods", FaceTests::methods);
        checks.test("language: no other member is to be seen", FaceTests::otherMembers);
        checks.test("language: static fields are constants", FaceTests::staticFields);
        checks.test("language: parameters and fields are few", FaceTests::sizes);
        checks.test("language: nothing that it leaves out", FaceTests::words);
        checks.test("language: the library that it lists, and no more", FaceTests::library);
        checks.test("language: methods are short, classes few", FaceTests::lengths);
    }

    private static void constructor(Checks c) {
        int modifiers = KeyCabinet.class.getModifiers();
        c.same("the class is public", Modifier.isPublic(modifiers), true);
        c.same("the class is final", Modifier.isFinal(modifiers), true);
        Constructor<?>[] all = KeyCabinet.class.getDeclaredConstructors();
        c.same("the number of constructors", all.length, 1);
        c.same("the constructor", all[0].toGenericString(), "public KeyCabinet()");
    }

    private static void methods(Checks c) {
        TreeSet<String> due = new TreeSet<>();
        for (String method : METHODS) {
            due.add("public " + method);
        }
        TreeSet<String> got = new TreeSet<>();
        for (Method method : KeyCabinet.class.getDeclaredMethods()) {
            if (Modifier.isPublic(method.getModifiers())) {
                got.add(method.toGenericString().replace("KeyCabinet.", ""));
            }
        }
        c.same("the public methods", got, due);
    }

    private static void otherMembers(Checks c) {
        TreeSet<String> names = new TreeSet<>();
        for (String method : METHODS) {
            names.add(method.substring(method.indexOf(' ') + 1, method.indexOf('(')));
        }
        for (Method method : KeyCabinet.class.getDeclaredMethods()) {
            if (!Modifier.isPublic(method.getModifiers())) {
                c.same(method + " is private", Modifier.isPrivate(method.getModifiers()), true);
                c.same(method + " has a public name", names.contains(method.getName()), false);
            }
        }
        for (Field field : KeyCabinet.class.getDeclaredFields()) {
            c.same(field + " is private", Modifier.isPrivate(field.getModifiers()), true);
        }
        for (Class<?> inside : KeyCabinet.class.getDeclaredClasses()) {
            c.same(inside + " is static", Modifier.isStatic(inside.getModifiers()), true);
            c.same(inside + " is public", Modifier.isPublic(inside.getModifiers()), false);
            c.same(inside + " is protected", Modifier.isProtected(inside.getModifiers()), false);
        }
    }

    private static void staticFields(Checks c) {
        for (Class<?> each : classes()) {
            for (Field field : each.getDeclaredFields()) {
                if (Modifier.isStatic(field.getModifiers())) {
                    c.same(field + " is final", Modifier.isFinal(field.getModifiers()), true);
                }
            }
        }
    }

    private static void sizes(Checks c) {
        for (Class<?> each : classes()) {
            int fields = 0;
            for (Field field : each.getDeclaredFields()) {
                fields += Modifier.isStatic(field.getModifiers()) ? 0 : 1;
            }
            c.same(each + " has at most 20 fields", fields <= 20, true);
            List<Executable> all = new ArrayList<>(List.of(each.getDeclaredMethods()));
            all.addAll(List.of(each.getDeclaredConstructors()));
            for (Executable one : all) {
                c.same(one + " has at most 7 parameters", one.getParameterCount() <= 7, true);
            }
        }
    }

    /** Words and signs that LANGUAGE.md leaves out, and answers to what the machine throws. */
    private static void words(Checks c) {
        String code = code();
        c.same("the source was found", code.contains("public final class KeyCabinet"), true);
        List<String> left = List.of("\\b(package|finally|synchronized|assert)\\b", "::",
                "\\bstatic\\s*\\{", "\\bhashCode\\b", "\\b\\w+Exact\\b", "\\bgetMessage\\b",
                "\\b(ArrayIndexOutOfBounds|NullPointer|ClassCast|NegativeArraySize|ArrayStore)\\w*",
                "\\b(Throwable|Error)\\b", "\\bcatch\\s*\\(\\s*(final\\s+)?Exception\\b",
                "(?m)^(?!\\s*(case|default)\\b).*->");
        for (String part : left) {
            c.same(part + " is in the source", Pattern.compile(part).matcher(code).find(), false);
        }
    }

    /** All classes that are named, and what is called by the name of a class (rules 4 and 6). */
    private static void library(Checks c) {
        String code = code();
        TreeSet<String> classes = found("\\b[A-Z]\\w*[a-z]\\w*", code);
        classes.removeAll(LIBRARY);
        for (Class<?> each : classes()) {
            classes.remove(each.getSimpleName());
        }
        c.same("other classes", classes, new TreeSet<String>());
        TreeSet<String> calls = found("\\b(Integer|Long|Math|System|Arrays)\\.\\w+", code);
        calls.removeIf(call -> FUNCTIONS.contains(call.substring(call.indexOf('.') + 1)));
        c.same("other functions", calls, new TreeSet<String>());
        c.same("other imports", found("\\bimport (?!java\\.util\\.).*", code), new TreeSet<String>());
        c.same("signs beyond 127", found("[^\\x00-\\x7f]", source()), new TreeSet<String>());
    }

    /** A method starts and ends at the same indent, four or eight signs (rule 11). */
    private static void lengths(Checks c) {
        String[] lines = source().split("\n");
        for (String indent : List.of("    ", "        ")) {
            int start = 0;
            for (int line = 0; line < lines.length; line++) {
                if (lines[line].matches(indent + "\\w.*")) {
                    start = line;
                }
                boolean isMethod = lines[start].contains("(");
                if (lines[line].equals(indent + "}") && isMethod) {
                    c.same(lines[start] + " is short", line - start < 60, true);
                }
            }
        }
        c.same("at most 12 classes", classes().size() <= 12, true);
    }

    private static TreeSet<String> found(String pattern, String text) {
        TreeSet<String> all = new TreeSet<>();
        Pattern.compile(pattern).matcher(text).results().forEach(part -> all.add(part.group()));
        return all;
    }

    /** The source without comments and texts. */
    private static String code() {
        return source()
                .replaceAll("(?s)/\\*.*?\\*/", " ")
                .replaceAll("//[^\n]*", " ")
                .replaceAll("\"[^\"\n]*\"", " ");
    }

    private static String source() {
        try {
            return Files.readString(Path.of("src/main/java/KeyCabinet.java"));
        } catch (IOException e) {
            return "";
        }
    }

    private static List<Class<?>> classes() {
        List<Class<?>> all = new ArrayList<>(List.of(KeyCabinet.class.getDeclaredClasses()));
        all.add(KeyCabinet.class);
        return all;
    }
}
