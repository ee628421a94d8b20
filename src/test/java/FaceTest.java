import java.io.IOException;
import java.lang.reflect.Constructor;
import java.lang.reflect.Field;
import java.lang.reflect.Method;
import java.lang.reflect.Modifier;
import java.nio.file.Files;
import java.nio.file.Path;
import java.util.ArrayList;
import java.util.Collections;
import java.util.List;
import java.util.regex.Matcher;
import java.util.regex.Pattern;

/** The public face, and those rules of ../shared/LANGUAGE.md that a short look can tell. */
public final class FaceTest {
    private static final String FACE = "carryOut() come(int,int,int) couldHike(int) count(int) fault() "
        + "find(int,int) lose(int,int) of(int,int,int) ofTroop(int,int) opensIn(int) pass(int) put(long) "
        + "resize(int,int) restore(int) save(int) set(int,int) troop(int) undo() waitsFor(int) why(int,int,int) wipe()";
    private static final String[] WORDS = {"throw", "throws", "try", "catch", "synchronized", "assert", "import",
        "package", "->", "::", "equals", "hashCode", "toString", "lambda", "Exact", "instanceof"};
    private static final int LONGEST_METHOD = 60, MOST_CLASSES = 12, MOST_FIELDS = 20, MOST_PARAMETERS = 7;
    /** What the program calls by the name of a class; the rest it calls on its own objects. */
    private static final String LIBRARY = "System.arraycopy Integer.bitCount Pad.charactersIn";

    public static void main(String[] args) throws IOException {
        constants();
        members();
        String program = Files.readString(Path.of("src/main/java/ScoutGates.java"));
        words(program);
        library(program);
        methods(program);
        sizes();
        Due.end();
    }

    private static void constants() {
        Due.is("NO_SUCH", ScoutGates.NO_SUCH, -1);
        Due.is("BAD_VALUE", ScoutGates.BAD_VALUE, -2);
        Due.is("BAD_TEXT", ScoutGates.BAD_TEXT, -3);
        Due.is("TOO_MANY", ScoutGates.TOO_MANY, -4);
        Due.is("NOT_POSSIBLE", ScoutGates.NOT_POSSIBLE, -5);
        Due.is("NONE", ScoutGates.NONE, -6);
        Due.is("PATIENCE", ScoutGates.PATIENCE, 0);
        Due.is("AWAY", ScoutGates.AWAY, 1);
    }

    private static void members() {
        Class<?> face = ScoutGates.class;
        Due.is("public and final", face.getModifiers(), Modifier.PUBLIC | Modifier.FINAL);
        List<String> open = new ArrayList<>();
        List<String> names = new ArrayList<>();
        for (Method method : face.getDeclaredMethods()) {
            if (!Modifier.isPrivate(method.getModifiers())) {
                Due.holds(method + " is public", method.getModifiers() == Modifier.PUBLIC);
                Due.holds(method + " answers an int", method.getReturnType() == int.class);
                names.add(method.getName());
                open.add(signature(method));
            }
        }
        Collections.sort(open);
        Due.holds("the methods are " + open, FACE.equals(String.join(" ", open)));
        for (Field field : face.getDeclaredFields()) {
            boolean isConstant = field.getModifiers() == (Modifier.PUBLIC | Modifier.STATIC | Modifier.FINAL);
            Due.holds(field + " is private or a constant", isConstant || Modifier.isPrivate(field.getModifiers()));
        }
        Due.is("public fields", face.getFields().length, 8);
        Constructor<?>[] constructors = face.getDeclaredConstructors();
        Due.holds("one public constructor", constructors.length == 1 && constructors[0].getParameterCount() == 0
            && constructors[0].getModifiers() == Modifier.PUBLIC);
        privateNames(face, names);
        for (Class<?> inside : face.getDeclaredClasses()) {
            Due.holds(inside + " is static", Modifier.isStatic(inside.getModifiers()));
            privateNames(inside, names);
        }
    }

    private static void privateNames(Class<?> type, List<String> names) {
        for (Method method : type.getDeclaredMethods()) {
            if (Modifier.isPrivate(method.getModifiers())) {
                Due.holds(method + " bears no public name", !names.contains(method.getName()));
            }
        }
    }

    private static String signature(Method method) {
        List<String> types = new ArrayList<>();
        for (Class<?> type : method.getParameterTypes()) {
            types.add(type.getName());
        }
        return method.getName() + "(" + String.join(",", types) + ")";
    }

    private static void words(String program) {
        String code = program.replaceAll("(?s)/\\*.*?\\*/", " ").replaceAll("//[^\n]*", " ");
        for (String word : WORDS) {
            String pattern = Character.isLetter(word.charAt(0)) ? "\\b" + word + "\\b" : Pattern.quote(word);
            Due.holds("no '" + word + "'", !Pattern.compile(pattern).matcher(code).find());
        }
        Due.holds("signs 1 to 127", code.chars().allMatch(sign -> sign >= 1 && sign <= 127));
    }

    private static void library(String program) {
        Matcher call = Pattern.compile("\\b[A-Z][a-z]\\w*\\.\\w+\\b(?=\\()").matcher(program);
        while (call.find()) {
            Due.holds(call.group() + " may be called", List.of(LIBRARY.split(" ")).contains(call.group()));
        }
    }

    /**
     * A method is what stands between a line that opens it and the brace of the same depth. Only a constructor has one
     * word before its brackets, or "public" and another; objects are made there alone, as room is short.
     */
    private static void methods(String program) {
        Matcher method = Pattern.compile("(?m)^( +)([a-zA-Z0-9\\[\\] ]+)\\([^;]*\\) \\{$").matcher(program);
        int methods = 0;
        while (method.find()) {
            int end = program.indexOf("\n" + method.group(1) + "}", method.end());
            String body = program.substring(method.start(), end);
            String name = method.group().trim();
            long lines = body.lines().count();
            Due.holds(name + " has " + lines + " lines", lines <= LONGEST_METHOD);
            boolean isMethod = method.group(2).replaceFirst("public |private ", "").trim().contains(" ");
            Due.holds(name + " makes no object", !isMethod || !Pattern.compile("\\bnew\\b").matcher(body).find());
            methods += isMethod ? 1 : 0;
        }
        Due.holds("methods were found", methods > FACE.split(" ").length);
    }

    private static void sizes() {
        List<Class<?>> classes = new ArrayList<>(List.of(ScoutGates.class.getDeclaredClasses()));
        Due.holds("at most 12 classes", classes.size() <= MOST_CLASSES);
        classes.add(ScoutGates.class);
        for (Class<?> type : classes) {
            int fields = 0;
            for (Field field : type.getDeclaredFields()) {
                boolean isStatic = Modifier.isStatic(field.getModifiers());
                Due.holds(field + " is no static state", !isStatic || Modifier.isFinal(field.getModifiers()));
                fields += isStatic ? 0 : 1;
            }
            Due.holds(type + " has at most 20 fields", fields <= MOST_FIELDS);
            for (Method method : type.getDeclaredMethods()) {
                Due.holds(method + " takes at most 7", method.getParameterCount() <= MOST_PARAMETERS);
            }
        }
    }
}
