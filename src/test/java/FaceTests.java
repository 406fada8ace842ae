import java.io.IOException;
import java.lang.reflect.Constructor;
import java.lang.reflect.Field;
import java.lang.reflect.Method;
import java.lang.reflect.Modifier;
import java.nio.file.Files;
import java.nio.file.Path;
import java.util.ArrayList;
import java.util.List;
import java.util.TreeSet;
import java.util.regex.Matcher;
import java.util.regex.Pattern;

/** The class has the document's face and no more, and keeps to the rules that a text search can see. */
public final class FaceTests {
    private static final Path SOURCE = Path.of("src/main/java/RumourHives.java");
    private static final Path DOCUMENT = Path.of("../shared/DOC.md");
    private static final String[] BANNED = {"catch", "try", "finally", "synchronized", "assert", "->", "::",
        "instanceof", "package ", "Exact(", "System.out", "java.util.*", "Object", "Random", "currentTime",
        "nanoTime", "Thread"};

    private static int passed = 0;
    private static int failed = 0;

    private static void test(String name, List<String> wrongs) {
        for (String wrong : wrongs) {
            System.out.println(name + ": " + wrong);
        }
        if (wrongs.isEmpty()) {
            passed++;
        } else {
            failed++;
        }
    }

    private static String read(Path path) {
        try {
            return Files.readString(path);
        } catch (IOException e) {
            throw new IllegalStateException(path + " can't be read", e);
        }
    }

    /** Each method of the document as "type name(types) exceptions". */
    private static TreeSet<String> promisedMethods() {
        TreeSet<String> methods = new TreeSet<>();
        Matcher matcher = Pattern.compile("    public (\\w+) (\\w+)\\((.*?)\\)(?: throws (.*?))?;").matcher(read(DOCUMENT));
        while (matcher.find()) {
            List<String> types = new ArrayList<>();
            for (String parameter : matcher.group(3).split(", ")) {
                if (!parameter.isEmpty()) {
                    types.add(parameter.split(" ")[0]);
                }
            }
            String exceptions = matcher.group(4) == null ? "" : matcher.group(4);
            methods.add(matcher.group(1) + " " + matcher.group(2) + types + " " + exceptions);
        }
        return methods;
    }

    private static TreeSet<String> publicMethods() {
        TreeSet<String> methods = new TreeSet<>();
        for (Method method : RumourHives.class.getDeclaredMethods()) {
            if (Modifier.isPublic(method.getModifiers())) {
                methods.add(method.getReturnType() + " " + method.getName() + names(method.getParameterTypes()) + " "
                        + String.join(", ", names(method.getExceptionTypes())));
            }
        }
        return methods;
    }

    private static List<String> names(Class<?>[] types) {
        List<String> names = new ArrayList<>();
        for (Class<?> type : types) {
            names.add(type.getSimpleName());
        }
        return names;
    }

    private static List<String> faceWrongs() {
        List<String> wrongs = new ArrayList<>();
        TreeSet<String> due = promisedMethods();
        TreeSet<String> got = publicMethods();
        if (due.size() != 52) {
            wrongs.add("the document's face was read with " + due.size() + " methods");
        }
        if (!due.equals(got)) {
            wrongs.add("the methods are " + got + ", due are " + due);
        }
        Constructor<?>[] constructors = RumourHives.class.getDeclaredConstructors();
        if (constructors.length != 1 || !Modifier.isPublic(constructors[0].getModifiers())
                || constructors[0].getParameterCount() != 0) {
            wrongs.add("the one public constructor is not there");
        }
        if (RumourHives.class.getModifiers() != (Modifier.PUBLIC | Modifier.FINAL)) {
            wrongs.add("the class is not public and final");
        }
        return wrongs;
    }

    private static List<String> hiddenWrongs() {
        List<String> wrongs = new ArrayList<>();
        TreeSet<String> publicNames = new TreeSet<>();
        for (Method method : RumourHives.class.getDeclaredMethods()) {
            if (Modifier.isPublic(method.getModifiers())) {
                publicNames.add(method.getName());
            }
        }
        for (Method method : RumourHives.class.getDeclaredMethods()) {
            boolean hidden = Modifier.isPrivate(method.getModifiers());
            if (!Modifier.isPublic(method.getModifiers()) && (!hidden || publicNames.contains(method.getName()))) {
                wrongs.add("method " + method);
            }
        }
        for (Field field : RumourHives.class.getDeclaredFields()) {
            if (!Modifier.isPrivate(field.getModifiers())) {
                wrongs.add("field " + field);
            }
        }
        for (Class<?> inside : RumourHives.class.getDeclaredClasses()) {
            if (Modifier.isPublic(inside.getModifiers()) || !Modifier.isStatic(inside.getModifiers())) {
                wrongs.add("class " + inside);
            }
            for (Method method : inside.getDeclaredMethods()) {
                if (publicNames.contains(method.getName())) {
                    wrongs.add("method " + method);
                }
            }
        }
        return wrongs;
    }

    private static List<Class<?>> allClasses() {
        List<Class<?>> classes = new ArrayList<>(List.of(RumourHives.class.getDeclaredClasses()));
        classes.add(RumourHives.class);
        return classes;
    }

    /** Rule 5 on static fields and what rule 11 counts. */
    private static List<String> sizeWrongs() {
        List<String> wrongs = new ArrayList<>();
        if (allClasses().size() > 12) {
            wrongs.add("there are " + allClasses().size() + " classes");
        }
        for (Class<?> one : allClasses()) {
            int fields = 0;
            for (Field field : one.getDeclaredFields()) {
                boolean isStatic = Modifier.isStatic(field.getModifiers());
                fields += isStatic ? 0 : 1;
                if (isStatic && (!Modifier.isFinal(field.getModifiers()) || !field.getType().isPrimitive())) {
                    wrongs.add("static field " + field);
                }
            }
            if (fields > 20) {
                wrongs.add(one + " has " + fields + " fields");
            }
            for (Method method : one.getDeclaredMethods()) {
                if (method.getParameterCount() > 7) {
                    wrongs.add("parameters of " + method);
                }
            }
        }
        return wrongs;
    }

    /** Rule 9: each loop counts against a bound, and its count goes up in its own lines. */
    private static List<String> loopWrongs() {
        List<String> wrongs = new ArrayList<>();
        Matcher loops = Pattern.compile("(?m)^( *)((?:for|while|do)\\b.*)\n((?s:.*?))^\\1\\}").matcher(read(SOURCE));
        Pattern counted = Pattern.compile("for \\(int (\\w+) = \\d+; \\1 <=? [^;]*; \\1\\+\\+\\) \\{");
        Pattern bounded = Pattern.compile("while \\((\\w+) < .*");
        int from = 0;
        while (loops.find(from)) {
            from = loops.end(2);
            String head = loops.group(2);
            Matcher whileHead = bounded.matcher(head);
            boolean ends = counted.matcher(head).matches()
                    || whileHead.matches() && loops.group(3).contains(" " + whileHead.group(1) + "++;");
            if (!ends) {
                wrongs.add("no end can be seen of " + head);
            }
        }
        if (from == 0) {
            wrongs.add("no loop was found");
        }
        return wrongs;
    }

    private static List<String> textWrongs() {
        List<String> wrongs = new ArrayList<>();
        String source = read(SOURCE).replaceAll("(?s)/\\*.*?\\*/", "").replaceAll("//[^\n]*", "");
        for (String banned : BANNED) {
            if (Pattern.compile("(?<![A-Za-z])" + Pattern.quote(banned) + "(?![A-Za-z])").matcher(source).find()) {
                wrongs.add("the source holds " + banned);
            }
        }
        if (source.split("\nimport |^import ", -1).length != 2 || !source.startsWith("import java.util.NoSuchElementException;")) {
            wrongs.add("the source imports more than the document's face does");
        }
        return wrongs;
    }

    public static void main(String[] args) {
        test("face", faceWrongs());
        test("hidden members", hiddenWrongs());
        test("text", textWrongs());
        test("sizes", sizeWrongs());
        test("loops", loopWrongs());
        System.out.println(passed + " passed, " + failed + " failed");
        if (failed != 0) {
            System.exit(1);
        }
    }
}
