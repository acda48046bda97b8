import java.io.IOException;
import java.lang.reflect.Constructor;
import java.lang.reflect.Field;
import java.lang.reflect.Method;
import java.lang.reflect.Modifier;
import java.nio.file.Files;
import java.nio.file.Path;
import java.util.ArrayList;
import java.util.Arrays;
import java.util.List;
import java.util.Set;
import java.util.TreeSet;
import java.util.regex.Matcher;
import java.util.regex.Pattern;

/** The public face, and the rules of LANGUAGE.md that can be seen from outside or by words. */
final class FaceTests {
    private static final Set<String> METHODS = new TreeSet<>(Arrays.asList(
        "int table(int,int)", "int set(int,int,int,int)", "int at(int,int,int)", "int look(int,int)",
        "int drop()", "long worth(int,int,int)", "int low(int,boolean)", "int count(int,int)",
        "int product(int,int)", "int sum(int,int)", "int part(int,int,int)", "int turn(int,int)",
        "int same(int,int)", "int net(int)", "int step(int,int,int,int)", "int back(int)",
        "int made(int)", "int families(int,int,int)", "long weight(int,int,int)",
        "int family(int,int,int,int)", "int unnet()", "int tell(int,int)", "int changes(int)",
        "int band(int,int)", "int make(int)", "long making(int,int)", "int lay(int,int)",
        "int tear()", "int row(int)", "int copy(int,int,int)", "int status(int)"));

    private FaceTests() {
    }

    static void all() {
        Check.test("face: constants", FaceTests::constants);
        Check.test("face: methods", FaceTests::methods);
        Check.test("face: as the document writes it, in its order", FaceTests::asWritten);
        Check.test("face: class, constructor, fields, classes inside", FaceTests::members);
        Check.test("language: words that are not allowed", FaceTests::words);
        Check.test("language, rules 3 and 4: the library", FaceTests::library);
        Check.test("language, rule 5: static fields", FaceTests::staticFields);
        Check.test("language, rule 11: sizes", FaceTests::sizes);
        Check.test("language, rule 12: no call makes an object", FaceTests::noNewObjects);
    }

    private static void constants() {
        Check.same("NONE", -1, WellTables.NONE);
        Check.same("MISSING", -2, WellTables.MISSING);
        Check.same("BEYOND", -3, WellTables.BEYOND);
        Check.same("BELOW", -4, WellTables.BELOW);
        Check.same("KIND", -5, WellTables.KIND);
        Check.same("COPY", -6, WellTables.COPY);
        Check.same("NO", -7, WellTables.NO);
        Check.same("FULL", -8, WellTables.FULL);
    }

    private static void methods() {
        Set<String> found = new TreeSet<>();
        Set<String> publicNames = new TreeSet<>();
        for (Method method : WellTables.class.getDeclaredMethods()) {
            if (Modifier.isPublic(method.getModifiers())) {
                found.add(told(method));
                publicNames.add(method.getName());
            }
        }
        Check.holds("public methods are " + found, found.equals(METHODS));
        noOtherBearsAPublicName(WellTables.class, publicNames);
        for (Class<?> inside : WellTables.class.getDeclaredClasses()) {
            noOtherBearsAPublicName(inside, publicNames);
        }
    }

    /** Names of parameters too, which the compiled class doesn't tell. */
    private static void asWritten() {
        List<String> due = publicMembers(textOf("../shared/DOC.md"));
        List<String> found = publicMembers(textOf("src/main/java/WellTables.java"));
        Check.same("members of the document", 1 + 8 + 1 + 31, due.size());
        Check.holds("written is " + found + ", due is " + due, found.equals(due));
    }

    private static List<String> publicMembers(String text) {
        List<String> members = new ArrayList<>();
        for (String line : text.split("\n")) {
            if (line.matches("( {4})?public .*")) {
                members.add(line.strip().replaceAll("( \\{|;)$", ""));
            }
        }
        return members;
    }

    private static void noOtherBearsAPublicName(Class<?> of, Set<String> publicNames) {
        for (Method method : of.getDeclaredMethods()) {
            boolean isFace = of == WellTables.class && Modifier.isPublic(method.getModifiers());
            if (isFace) {
                continue;
            }
            Check.holds(method + " bears a public name", !publicNames.contains(method.getName()));
            if (of == WellTables.class) {
                Check.holds(method + " is not private", Modifier.isPrivate(method.getModifiers()));
            }
        }
    }

    private static String told(Method method) {
        StringBuilder text = new StringBuilder(method.getReturnType().getName());
        text.append(' ').append(method.getName()).append('(');
        String between = "";
        for (Class<?> type : method.getParameterTypes()) {
            text.append(between).append(type.getName());
            between = ",";
        }
        Check.holds(method + " is static", !Modifier.isStatic(method.getModifiers()));
        return text.append(')').toString();
    }

    private static void members() {
        int modifiers = WellTables.class.getModifiers();
        Check.holds("public and final", Modifier.isPublic(modifiers) && Modifier.isFinal(modifiers));
        Constructor<?>[] constructors = WellTables.class.getDeclaredConstructors();
        Check.same("constructors", 1, constructors.length);
        Check.holds("a public one", Modifier.isPublic(constructors[0].getModifiers()));
        Check.same("its parameters", 0, constructors[0].getParameterCount());
        int publicFields = 0;
        for (Field field : WellTables.class.getDeclaredFields()) {
            int how = field.getModifiers();
            if (Modifier.isPublic(how)) {
                publicFields++;
            } else {
                Check.holds(field + " is private", Modifier.isPrivate(how));
            }
            Check.holds(field + " is static and not final", !Modifier.isStatic(how) || Modifier.isFinal(how));
        }
        Check.same("public constants", 8, publicFields);
        for (Class<?> inside : WellTables.class.getDeclaredClasses()) {
            Check.holds(inside + " is static", Modifier.isStatic(inside.getModifiers()));
        }
    }

    private static void words() {
        String source = sourceWithoutComments();
        for (String word : new String[] {"throw", "throws", "try", "catch", "synchronized", "assert", "->", "::"}) {
            String pattern = Character.isLetter(word.charAt(0)) ? "(?s).*\\b" + word + "\\b.*" : null;
            boolean isThere = pattern == null ? source.contains(word) : source.matches(pattern);
            Check.holds("the source has " + word, !isThere);
        }
        for (String line : source.split("\n")) {
            if (line.startsWith("import")) {
                Check.holds(line, line.equals("import java.util.Arrays;"));
            }
        }
    }

    private static void library() {
        Set<String> allowed = new TreeSet<>(Arrays.asList("Arrays.fill", "Integer.bitCount", "Math.abs", "Math.max",
            "Math.min", "System.arraycopy"));
        Matcher called = Pattern.compile("\\b([A-Z]\\w*\\.\\w+)\\(").matcher(sourceWithoutComments());
        while (called.find()) {
            Check.holds(called.group(1) + " is called", allowed.contains(called.group(1)));
        }
        for (String word : new String[] {"double", "float", "String", "Object", "instanceof", "List", "\""}) {
            Check.holds("the source has " + word, !sourceWithoutComments().contains(word));
        }
    }

    private static List<Class<?>> classes() {
        List<Class<?>> all = new ArrayList<>(Arrays.asList(WellTables.class.getDeclaredClasses()));
        all.add(WellTables.class);
        return all;
    }

    private static void staticFields() {
        for (Class<?> of : classes()) {
            for (Field field : of.getDeclaredFields()) {
                if (Modifier.isStatic(field.getModifiers())) {
                    Check.holds(field + " is not final", Modifier.isFinal(field.getModifiers()));
                    Check.holds(field + " is no number", field.getType() == int.class);
                }
            }
        }
    }

    private static void sizes() {
        Check.holds("more than 12 classes", classes().size() <= 12);
        for (Class<?> of : classes()) {
            int fields = 0;
            for (Field field : of.getDeclaredFields()) {
                fields += Modifier.isStatic(field.getModifiers()) ? 0 : 1;
            }
            Check.holds(of + " has " + fields + " fields", fields <= 20);
            for (Method method : of.getDeclaredMethods()) {
                Check.holds(method + " takes too many", method.getParameterCount() <= 7);
            }
        }
        methodsAreShort();
    }

    private static void methodsAreShort() {
        Pattern methodsHead = Pattern.compile("( {4}| {8})\\w[^=;]*\\) \\{");
        String end = "";
        int lines = 0;
        int methods = 0;
        for (String line : sourceWithoutComments().split("\n")) {
            Matcher head = methodsHead.matcher(line);
            if (end.isEmpty() && head.matches()) {
                end = head.group(1) + "}";
                lines = 0;
                methods++;
            }
            lines++;
            Check.holds("a method is longer than 60 lines, at " + line, end.isEmpty() || lines <= 60);
            end = line.equals(end) ? "" : end;
        }
        Check.holds("methods found: " + methods, methods > 60);
    }

    private static void noNewObjects() {
        boolean isInConstructor = false;
        for (String line : sourceWithoutComments().split("\n")) {
            isInConstructor |= line.equals("    public WellTables() {");
            boolean isField = line.matches(" +private final .* = new .*;");
            if (line.contains("new ")) {
                Check.holds("a call makes an object: " + line, isField || isInConstructor);
            }
            isInConstructor &= !line.equals("    }");
        }
    }

    private static String sourceWithoutComments() {
        String all = textOf("src/main/java/WellTables.java");
        return all.replaceAll("(?s)/\\*.*?\\*/", "").replaceAll("//[^\n]*", "");
    }

    private static String textOf(String file) {
        try {
            return Files.readString(Path.of(file));
        } catch (IOException thrown) {
            throw new IllegalStateException(thrown);
        }
    }
}
