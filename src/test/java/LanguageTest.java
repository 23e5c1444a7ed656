import java.io.IOException;
import java.lang.reflect.Field;
import java.lang.reflect.Method;
import java.lang.reflect.Modifier;
import java.nio.file.Files;
import java.nio.file.Path;
import java.util.ArrayList;
import java.util.Arrays;
import java.util.List;
import java.util.Set;
import java.util.TreeSet;
import java.util.regex.Matcher;
import java.util.regex.Pattern;

/** What of ../shared/LANGUAGE.md and of the public face can be seen without running a call. */
public final class LanguageTest {
    private static final Path SOURCE = Path.of("src/main/java/ChargeStages.java");
    private static final List<String> FACE = List.of("battery(int)", "setCharge(int,int)", "use(int)",
            "set(int,int)", "readProfile()", "start()", "stop()", "pass(int)", "type(char)",
            "clearText()", "undo()", "keep()", "restore()", "cell(int,int)", "setting(int)",
            "stage(int,int)", "voltage(int)", "current()", "doneIn()", "chargeIn(int,int)",
            "warmest()", "event(int,int)", "count(int)");
    private static final List<String> CONSTANTS =
            List.of("UNKNOWN", "BAD_VALUE", "FULL", "NOT_POSSIBLE", "NONE");

    public static void main(String[] args) throws IOException {
        String source = Files.readString(SOURCE);
        String code = source.replaceAll("(?s)/\\*.*?\\*/", "").replaceAll("//[^\n]*", "");
        face();
        fields();
        privateNames();
        numbersOfClassesFieldsAndParameters();
        words(code);
        libraryCalls(code);
        rowsAreMadeOnce(code);
        methodsAreShort(code);
        Check.finish();
    }

    private static void face() {
        Set<String> found = new TreeSet<>();
        for (Method method : ChargeStages.class.getDeclaredMethods()) {
            if (!Modifier.isPrivate(method.getModifiers())) {
                String types = String.join(",", Arrays.stream(method.getParameterTypes())
                        .map(Class::getName).toList());
                found.add(method.getName() + "(" + types + ")");
                Check.holds(method.getName() + " is public",
                        Modifier.isPublic(method.getModifiers()));
                Check.holds(method.getName() + " returns int", method.getReturnType() == int.class);
            }
        }
        Check.holds("the methods of the face, no more and no less: " + found,
                found.equals(new TreeSet<>(FACE)));
        Check.holds("public and final", Modifier.isPublic(ChargeStages.class.getModifiers())
                && Modifier.isFinal(ChargeStages.class.getModifiers()));
        Check.due("constructors", ChargeStages.class.getDeclaredConstructors().length, 1);
        Check.due("public constructors", ChargeStages.class.getConstructors().length, 1);
        for (Class<?> inside : ChargeStages.class.getDeclaredClasses()) {
            Check.holds(inside.getName() + " is static",
                    Modifier.isStatic(inside.getModifiers()));
            Check.holds(inside.getName() + " is not public",
                    !Modifier.isPublic(inside.getModifiers())
                            && !Modifier.isProtected(inside.getModifiers()));
        }
    }

    private static void fields() {
        Set<String> found = new TreeSet<>();
        for (Field field : ChargeStages.class.getDeclaredFields()) {
            if (!Modifier.isPrivate(field.getModifiers())) {
                found.add(field.getName());
            }
            Check.holds(field.getName() + " is final if it is static",
                    !Modifier.isStatic(field.getModifiers())
                            || Modifier.isFinal(field.getModifiers()));
        }
        Check.holds("the constants, no more and no less: " + found,
                found.equals(new TreeSet<>(CONSTANTS)));
    }

    private static void privateNames() {
        Set<String> names = new TreeSet<>();
        for (String method : FACE) {
            names.add(method.substring(0, method.indexOf('(')));
        }
        for (Method method : ChargeStages.class.getDeclaredMethods()) {
            Check.holds(method.getName() + " is not a private one of a public name",
                    !Modifier.isPrivate(method.getModifiers()) || !names.contains(method.getName()));
        }
        for (Class<?> inside : ChargeStages.class.getDeclaredClasses()) {
            for (Method method : inside.getDeclaredMethods()) {
                Check.holds(method.getName() + " is not of a public name",
                        !names.contains(method.getName()));
            }
        }
    }

    /** Rule 11. */
    private static void numbersOfClassesFieldsAndParameters() {
        List<Class<?>> classes = new ArrayList<>(List.of(ChargeStages.class.getDeclaredClasses()));
        classes.add(ChargeStages.class);
        Check.holds("some twelve classes: " + classes.size(), classes.size() <= 12);
        for (Class<?> each : classes) {
            long fields = Arrays.stream(each.getDeclaredFields())
                    .filter(field -> !Modifier.isStatic(field.getModifiers())).count();
            Check.holds("some twenty fields of " + each.getName() + ": " + fields, fields <= 20);
            for (Method method : each.getDeclaredMethods()) {
                Check.holds("at most seven parameters of " + method.getName(),
                        method.getParameterCount() <= 7);
            }
        }
    }

    private static void words(String code) {
        for (String word : List.of("package", "import", "throw", "throws", "try", "catch", "finally",
                "synchronized", "assert", "volatile", "native",
                "System\\.(?!arraycopy)", "Exact", "hashCode", "toString", "equals")) {
            boolean found = Pattern.compile("\\b" + word + "\\b").matcher(code).find();
            Check.holds("no " + word, !found);
        }
        Check.holds("no lambda", !code.contains("->"));
        Check.holds("no method reference", !code.contains("::"));
        Check.holds("no static block", !Pattern.compile("static\\s*\\{").matcher(code).find());
    }

    /** Rule 4: of the library, only what is on its list, and of that no more than is needed. */
    private static void libraryCalls(String code) {
        Matcher call = Pattern.compile("\\b(Math|System|Integer|Long|Arrays|String)\\b(\\.\\w+)?")
                .matcher(code);
        Set<String> found = new TreeSet<>();
        while (call.find()) {
            found.add(call.group());
        }
        Check.holds("what is called of the library: " + found, found.equals(
                Set.of("Math.max", "Math.min", "Math.floorMod", "System.arraycopy")));
    }

    /** Every call would count in the one room, so only constructors and fields make anything. */
    private static void rowsAreMadeOnce(String code) {
        for (String line : code.split("\n")) {
            if (line.contains("new ")) {
                Check.holds("made once: " + line.trim(),
                        line.contains("final ") || line.trim().equals("kept[place] = new State();"));
            }
        }
    }

    private static void methodsAreShort(String code) {
        Matcher head = Pattern.compile("(?m)^( +)[^\n;={]*\\([^\n;]*\\) \\{$").matcher(code);
        int methods = 0;
        while (head.find()) {
            int end = code.indexOf("\n" + head.group(1) + "}", head.end());
            long lines = code.substring(head.start(), Math.max(head.start(), end)).lines().count();
            Check.holds(head.group().trim() + " is short", end > 0 && lines <= 60);
            methods++;
        }
        Check.holds("there are methods", methods > 60);
    }
}
