import java.io.IOException;
import java.lang.reflect.Constructor;
import java.lang.reflect.Field;
import java.lang.reflect.Method;
import java.lang.reflect.Modifier;
import java.nio.file.Files;
import java.nio.file.Path;
import java.util.Arrays;
import java.util.Map;
import java.util.Set;
import java.util.TreeMap;
import java.util.TreeSet;
import java.util.regex.Matcher;
import java.util.regex.Pattern;

/** The public face of the document, and what of LANGUAGE.md can be seen in the class and its source. */
public final class FaceTest {
    private static final Check check = new Check("face and language");
    private static final Path SOURCE = Path.of("src/main/java/RingGates.java");

    private static final String CONSTANTS = "STATUS_IDLE=0 STATUS_READY=1 STATUS_HALTED=2 STATUS_FAULTED=3 "
        + "F_NONE=0 F_SEG=1 F_BOUND=2 F_EXEC=3 F_READ=4 F_WRITE=5 F_CALL=6 F_GATE=7 F_STACK=8 F_FRAMES=9 "
        + "F_OPCODE=10 FLAG_READ=1 FLAG_WRITE=2 FLAG_EXEC=4 KIND_READ=0 KIND_WRITE=1 KIND_EXEC=2 KIND_CALL=3 "
        + "OP_HLT=0 OP_LDI=1 OP_ADI=2 OP_PTR=3 OP_ADP=4 OP_SWP=5 OP_LD=6 OP_ST=7 OP_PUSH=8 OP_POP=9 OP_JMP=10 "
        + "OP_JZ=11 OP_CALL=12 OP_RET=13 OP_RNG=14 OP_PRG=15 S_STATUS=0 S_FAULT=1 S_RING=2 S_IC=3 S_ACC=4 "
        + "S_P=5 S_Q=6 S_DEPTH=7 S_COUNT=8 FR_RETURN=0 FR_CALLER_RING=1 FR_FLOOR=2 FR_SAVED_P=3 FR_SAVED_Q=4 "
        + "FR_RING=5 MAX_GATES=4 MAX_RUN=256";

    private static final Set<String> METHODS = Set.of(
        "boolean defineSegment 4", "boolean addGate 2", "boolean poke 3", "int peek 2", "int segment 1",
        "int gate 2", "boolean access 4", "boolean start 3", "int run 1", "int state 1", "int frame 2",
        "int stackHeight 1", "int stackValue 2");

    private static final String[] FORBIDDEN = {"import", "package", "throw", "throws", "try", "catch", "finally",
        "synchronized", "assert", "instanceof", "null", "float", "double", "String", "Math", "Integer", "System",
        "Arrays", "Object", "interface", "enum", "record", "protected", "native", "volatile", "var"};

    public static void main(String[] args) throws IllegalAccessException, IOException {
        check.yes("the class is public and final",
            RingGates.class.getModifiers() == (Modifier.PUBLIC | Modifier.FINAL));
        check.due("nested classes", RingGates.class.getDeclaredClasses().length, 0);
        check.due("interfaces", RingGates.class.getInterfaces().length, 0);
        fields();
        methods();
        constructors();
        source(Files.readString(SOURCE));
        check.end();
    }

    private static void fields() throws IllegalAccessException {
        Set<String> got = new TreeSet<>();
        int instanceFields = 0;
        for (Field field : RingGates.class.getDeclaredFields()) {
            int modifiers = field.getModifiers();
            if (Modifier.isPublic(modifiers)) {
                check.yes(field + " is a constant", Modifier.isStatic(modifiers) && Modifier.isFinal(modifiers)
                    && field.getType() == int.class);
                got.add(field.getName() + "=" + field.get(null));
            } else {
                check.yes(field + " is private", Modifier.isPrivate(modifiers));
            }
            if (Modifier.isStatic(modifiers)) {
                check.yes(field + " is a constant", Modifier.isFinal(modifiers)
                    && (field.getType() == int.class || field.getType() == long.class));
            } else {
                instanceFields++;
                check.yes(field + " has a plain type", isPlain(field.getType()));
            }
        }
        check.yes("few fields", instanceFields <= 40);
        Set<String> want = new TreeSet<>(Arrays.asList(CONSTANTS.split(" ")));
        check.yes("the constants are those of the document: " + got, got.equals(want));
    }

    private static boolean isPlain(Class<?> type) {
        Class<?> one = type.isArray() ? type.getComponentType() : type;
        return one.isPrimitive() && one != float.class && one != double.class;
    }

    private static void methods() {
        Set<String> got = new TreeSet<>();
        Map<String, Integer> names = new TreeMap<>();
        for (Method method : RingGates.class.getDeclaredMethods()) {
            names.merge(method.getName(), 1, Integer::sum);
            check.yes(method + " has few parameters", method.getParameterCount() <= 7);
            check.no(method + " answers an array", method.getReturnType().isArray());
            if (Modifier.isPublic(method.getModifiers())) {
                got.add(method.getReturnType() + " " + method.getName() + " " + method.getParameterCount());
                check.no(method + " is static", Modifier.isStatic(method.getModifiers()));
                for (Class<?> type : method.getParameterTypes()) {
                    check.yes(method + " takes ints", type == int.class);
                }
            } else {
                check.yes(method + " is private", Modifier.isPrivate(method.getModifiers()));
            }
        }
        check.yes("the methods are those of the document: " + got, got.equals(METHODS));
        names.forEach((name, times) -> check.due("methods named " + name, times, 1));
    }

    private static void constructors() {
        Constructor<?>[] all = RingGates.class.getDeclaredConstructors();
        check.due("constructors", all.length, 1);
        check.yes("the constructor is public", Modifier.isPublic(all[0].getModifiers()));
        check.yes("it takes three ints",
            Arrays.equals(all[0].getParameterTypes(), new Class<?>[] {int.class, int.class, int.class}));
    }

    private static void source(String text) {
        String code = text.replaceAll("(?s)/\\*.*?\\*/", "").replaceAll("//[^\n]*", "");
        for (String word : FORBIDDEN) {
            check.no("the word " + word, Pattern.compile("\\b" + word + "\\b").matcher(code).find());
        }
        check.no("a lambda or a method reference", code.contains("->") || code.contains("::"));
        check.no("a text", code.contains("\""));
        check.no("an array of arrays", code.contains("[][]"));
        check.no("a static initialiser", Pattern.compile("\\bstatic\\s*\\{").matcher(code).find());
        Matcher made = Pattern.compile("\\bnew\\b[^;]*;").matcher(code);
        while (made.find()) {
            check.yes(made.group() + " has a constant length", made.group().matches("new int\\[[A-Z_0-9]+\\];"));
        }
        Matcher line = Pattern.compile("(?m)^.*\\bnew\\b.*$").matcher(code);
        while (line.find()) {
            check.yes(line.group().trim() + " is a field's initialiser",
                line.group().startsWith("    private final int[] "));
        }
        callsAndLoops(code);
    }

    private static void callsAndLoops(String code) {
        Map<String, Set<String>> calls = new TreeMap<>();
        Matcher head = Pattern.compile("(?m)^    (?:public|private)(?: static)? (?:int|boolean|void) (\\w+)\\(.*\\{$")
            .matcher(code);
        while (head.find()) {
            String body = code.substring(head.end(), code.indexOf("\n    }\n", head.end()));
            check.yes(head.group(1) + " is short", body.lines().count() <= 60);
            calls.put(head.group(1), new TreeSet<>());
            Matcher call = Pattern.compile("\\b([a-z]\\w*)\\(").matcher(body);
            while (call.find()) {
                calls.get(head.group(1)).add(call.group(1));
            }
        }
        check.due("methods read from the source", calls.size(), RingGates.class.getDeclaredMethods().length);
        for (String name : calls.keySet()) {
            int deep = depth(calls, name, 0);
            check.yes(name + " calls " + deep + " deep", deep <= 6);
        }
        check.no("a call inside of a call's arguments",
            Pattern.compile("\\b(?!if|for|while|switch)[a-z]\\w*\\([^()]*\\b[a-z]\\w*\\(").matcher(code).find());
        check.no("a loop without a counter", Pattern.compile("\\bwhile\\b|\\bdo\\b").matcher(code).find());
    }

    /** A recursion shows as a depth without end, so the count stops soon after the greatest that is allowed. */
    private static int depth(Map<String, Set<String>> calls, String name, int above) {
        int deepest = above + 1;
        if (above < 12) {
            for (String called : calls.get(name)) {
                if (calls.containsKey(called)) {
                    deepest = Math.max(deepest, depth(calls, called, above + 1));
                }
            }
        }
        return deepest;
    }
}
