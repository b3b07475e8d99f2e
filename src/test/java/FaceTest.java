import java.lang.reflect.Constructor;
import java.lang.reflect.Field;
import java.lang.reflect.Method;
import java.lang.reflect.Modifier;
import java.nio.file.Files;
import java.nio.file.Path;
import java.util.ArrayList;
import java.util.List;
import java.util.Set;
import java.util.TreeSet;
import java.util.regex.Matcher;
import java.util.regex.Pattern;

/** The public face, and those rules of LANGUAGE.md that a look at the class or its text can tell. */
public final class FaceTest {
    private static final String[] METHODS = {
        "feed 5", "end 1", "octet 1", "back 0", "hash 0", "key 0", "extend 1", "reset 1", "state 1", "quote 1",
        "open 1", "policyState 2", "policyAuth 1", "policyCode 2", "policyTime 2", "policyOr 1", "digest 1",
        "seal 1", "load 0", "unseal 2", "flush 1", "define 4", "undefine 1", "write 3", "count 2", "chain 2",
        "read 2", "shut 2", "own 0", "unlock 0", "clear 0", "tick 1", "restart 0", "look 1"
    };
    private static final String[] CONSTANTS = {
        "REFUSED", "NONE", "FULL", "DENIED", "LOCKED", "BROKEN", "WRONG"
    };

    private FaceTest() {
    }

    public static void main(String[] args) throws Exception {
        constants();
        methods();
        constructors();
        nestedClasses();
        everyClass(MeasuredVault.class);
        for (Class<?> nested : MeasuredVault.class.getDeclaredClasses()) {
            everyClass(nested);
        }
        text();
        methodLengths();
        documentsFace();
        Check.finish("FaceTest");
    }

    private static void constants() throws Exception {
        Set<String> open = new TreeSet<>();
        for (Field field : MeasuredVault.class.getDeclaredFields()) {
            if (!Modifier.isPrivate(field.getModifiers())) {
                open.add(field.getName());
            }
        }
        Check.holds("the open fields are the constants: " + open, open.equals(new TreeSet<>(Set.of(CONSTANTS))));
        for (int i = 0; i < CONSTANTS.length; i++) {
            Field field = MeasuredVault.class.getField(CONSTANTS[i]);
            Check.holds(CONSTANTS[i] + " is an int", field.getType() == int.class);
            Check.due(CONSTANTS[i], -1 - i, field.getInt(null));
        }
    }

    private static void methods() {
        Set<String> open = new TreeSet<>();
        Set<String> names = new TreeSet<>();
        Set<String> closed = new TreeSet<>();
        for (Method method : MeasuredVault.class.getDeclaredMethods()) {
            if (Modifier.isPrivate(method.getModifiers())) {
                closed.add(method.getName());
                continue;
            }
            open.add(method.getName() + " " + method.getParameterCount());
            names.add(method.getName());
            Check.holds(method + " is public, an int, and of the object",
                Modifier.isPublic(method.getModifiers()) && !Modifier.isStatic(method.getModifiers())
                    && method.getReturnType() == int.class);
            for (Class<?> type : method.getParameterTypes()) {
                Check.holds(method + " takes ints", type == int.class);
            }
        }
        Check.holds("the open methods are the document's: " + open, open.equals(new TreeSet<>(Set.of(METHODS))));
        closed.retainAll(names);
        Check.holds("no private method bears a public one's name: " + closed, closed.isEmpty());
    }

    private static void constructors() {
        Constructor<?>[] made = MeasuredVault.class.getDeclaredConstructors();
        Check.due("constructors", 1, made.length);
        Check.holds("it is public and takes an int", Modifier.isPublic(made[0].getModifiers())
            && made[0].getParameterCount() == 1 && made[0].getParameterTypes()[0] == int.class);
        Check.holds("the class is final", Modifier.isFinal(MeasuredVault.class.getModifiers()));
    }

    private static void nestedClasses() {
        Class<?>[] nested = MeasuredVault.class.getDeclaredClasses();
        Check.holds("at most twelve classes", nested.length < 12);
        for (Class<?> each : nested) {
            Check.holds(each + " is static", Modifier.isStatic(each.getModifiers()));
            Check.holds(each + " is not open", !Modifier.isPublic(each.getModifiers()));
            Check.due(each + " has no class inside", 0, each.getDeclaredClasses().length);
        }
    }

    /** Rules 1, 5, 6 and 11, for the class and for each one inside it. */
    private static void everyClass(Class<?> each) {
        int fields = 0;
        for (Field field : each.getDeclaredFields()) {
            boolean constant = Modifier.isStatic(field.getModifiers());
            fields += constant ? 0 : 1;
            Check.holds(field + " is no static state", !constant || Modifier.isFinal(field.getModifiers()));
            Check.holds(field + " is a number or a row of numbers, if a constant", !constant
                || Set.of(int.class, long.class, boolean.class, int[].class, long[].class).contains(field.getType()));
        }
        Check.holds(each + " has some twenty fields: " + fields, fields <= 20);
        Set<String> face = new TreeSet<>();
        for (String method : METHODS) {
            face.add(method.split(" ")[0]);
        }
        for (Method method : each.getDeclaredMethods()) {
            Check.holds(method + " takes at most seven", method.getParameterCount() <= 7);
            Check.holds(method + " is none of every object's",
                !Set.of("equals", "hashCode", "toString", "finalize").contains(method.getName()));
            Check.holds(method + " does not bear a public method's name",
                Modifier.isPublic(method.getModifiers()) || !face.contains(method.getName()));
        }
    }

    /** Rule 11: some sixty lines. A method's text ends with a brace that stands as far in as its head. */
    private static void methodLengths() throws Exception {
        List<String> lines = Files.readAllLines(Path.of("src/main/java/MeasuredVault.java"));
        int methods = 0;
        for (int i = 0; i < lines.size(); i++) {
            Matcher head = Pattern.compile("^( {4}| {8})[^ /*].*\\) \\{$").matcher(lines.get(i));
            if (head.find() && !lines.get(i).trim().matches("(if|for|while|switch) .*")) {
                int length = 1;
                while (i + length < lines.size() && !lines.get(i + length).equals(head.group(1) + "}")) {
                    length++;
                }
                methods++;
                Check.holds("some sixty lines at most, not " + length + ":" + lines.get(i), length <= 60);
            }
        }
        Check.holds("methods were found: " + methods, methods > METHODS.length);
    }

    /** The document's face, line by line and in its order, and what it says ahead of which calls. */
    private static void documentsFace() throws Exception {
        Path place = Path.of("../shared/DOC.md");
        if (!Files.isReadable(place)) {
            System.out.println("no document at " + place + ": its face is not looked up");
            return;
        }
        String code = Files.readString(Path.of("src/main/java/MeasuredVault.java"));
        String document = Files.readString(place);
        int at = 0;
        int lines = 0;
        Matcher line = Pattern.compile("(?m)^ *(public .*?);?$").matcher(document);
        while (line.find()) {
            lines++;
            at = code.indexOf(line.group(1), at);
            Check.holds("in its place in the class: " + line.group(1), at >= 0);
            at = Math.max(at, 0);
        }
        Check.due("lines of the document's face", 3 + METHODS.length, lines);
        Matcher ahead = Pattern.compile("(?m)^Ahead of the calls (`.*`) the interface says: (.*)\\.$")
            .matcher(document);
        int groups = 0;
        while (ahead.find()) {
            groups++;
            groupStandsTogether(code, ahead.group(2), ahead.group(1).replace("`", "").split(", "));
        }
        Check.due("what the interface says ahead of calls", 5, groups);
    }

    private static void groupStandsTogether(String code, String heading, String[] calls) {
        int start = code.indexOf("// " + heading + "\n");
        Check.holds("the class has the heading " + heading, start >= 0);
        String part = code.substring(Math.max(start, 0)).split("(?m)// ---- |^    private ")[1];
        List<String> found = new ArrayList<>();
        Matcher method = Pattern.compile("public int (\\w+)\\(").matcher(part);
        while (method.find()) {
            found.add(method.group(1));
        }
        Check.holds("behind the heading " + heading + " are its calls: " + found, found.equals(List.of(calls)));
    }

    private static void text() throws Exception {
        String code = Files.readString(Path.of("src/main/java/MeasuredVault.java"))
            .replaceAll("(?s)/\\*.*?\\*/", "").replaceAll("//[^\n]*", "");
        Matcher banned = Pattern.compile(
            "\\b(throw|throws|try|catch|synchronized|assert|package|protected|float|double|native|Thread|Random)\\b"
            + "|->|::|Exact\\(|while *\\(true|for *\\(;").matcher(code);
        Check.holds("no word that LANGUAGE.md rules out", !banned.find());
        Matcher imports = Pattern.compile("import ([^;]*);").matcher(code);
        while (imports.find()) {
            Check.holds("only Arrays is imported", imports.group(1).equals("java.util.Arrays"));
        }
        Matcher calls = Pattern.compile("\\b(Arrays|Math|System|Integer|Long)\\.(\\w+)").matcher(code);
        Set<String> library = Set.of("Arrays.fill", "Math.min", "Math.max", "Math.floorMod", "System.arraycopy");
        while (calls.find()) {
            Check.holds(calls.group() + " is of the library's list", library.contains(calls.group()));
        }
    }
}
