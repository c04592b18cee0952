import java.lang.reflect.Constructor;
import java.lang.reflect.Field;
import java.lang.reflect.Method;
import java.lang.reflect.Modifier;
import java.util.TreeSet;

/** The public face, promise 1, and the language rules that can be seen in the face and the source. */
public final class FaceTest {
    private static final String[] FACE = {
        "lay 3", "lose 2", "share 2", "size 2", "look 3", "put 4", "turn 5", "days 3", "meadow 3",
        "join 4", "cut 2", "width 2", "see 3", "tend 5", "fault 0", "count 1"
    };

    public static void main(String[] args) throws Exception {
        face();
        privateNames();
        source();
        newObject();
        Due.end();
    }

    private static void face() {
        TreeSet<String> want = new TreeSet<>(java.util.Arrays.asList(FACE));
        TreeSet<String> got = new TreeSet<>();
        for (Method m : HiveLedger.class.getDeclaredMethods()) {
            if (Modifier.isPrivate(m.getModifiers())) {
                continue;
            }
            got.add(m.getName() + " " + m.getParameterCount());
            Due.due(m + " is public, of the object and answers an int", plainMethod(m) ? 1 : 0, 1);
        }
        Due.due("the methods " + got + " are those of the face", got.equals(want) ? 1 : 0, 1);
        Constructor<?>[] constructors = HiveLedger.class.getConstructors();
        Due.due("public constructors", constructors.length, 1);
        Due.due("constructor's arguments", constructors[0].getParameterCount(), 0);
        for (Field f : HiveLedger.class.getDeclaredFields()) {
            boolean fits = Modifier.isPrivate(f.getModifiers()) || f.getName().equals("NONE");
            Due.due("field " + f + " is private or of the face", fits ? 1 : 0, 1);
        }
        Due.due("NONE", HiveLedger.NONE, -1);
        Due.due("the class is final", Modifier.isFinal(HiveLedger.class.getModifiers()) ? 1 : 0, 1);
    }

    private static boolean plainMethod(Method m) {
        boolean ints = m.getReturnType() == int.class;
        for (Class<?> type : m.getParameterTypes()) {
            ints = ints && type == int.class;
        }
        return ints && Modifier.isPublic(m.getModifiers()) && !Modifier.isStatic(m.getModifiers());
    }

    private static void privateNames() {
        for (Method m : HiveLedger.class.getDeclaredMethods()) {
            for (String name : FACE) {
                boolean same = name.startsWith(m.getName() + " ") && Modifier.isPrivate(m.getModifiers());
                Due.due("private " + m.getName() + " bears a public name", same ? 1 : 0, 0);
            }
        }
    }

    private static void source() throws Exception {
        String text = new String(java.nio.file.Files.readAllBytes(
            java.nio.file.Path.of("src/main/java/HiveLedger.java")), "UTF-8");
        String code = text.replaceAll("(?s)/\\*.*?\\*/", " ").replaceAll("//[^\n]*", " ");
        String[] barred = {"throw", "throws", "try", "catch", "synchronized", "assert", "import", "package",
            "Float", "Double", "Object", "protected"};
        for (String word : barred) {
            boolean has = java.util.regex.Pattern.compile("\\b" + word + "\\b").matcher(code).find();
            Due.due("the source uses " + word, has ? 1 : 0, 0);
        }
        Due.due("the source has a lambda", code.contains("->") || code.contains("::") ? 1 : 0, 0);
    }

    private static void newObject() {
        HiveLedger x = new HiveLedger();
        Due.due("fault() of a new object", x.fault(), 0);
        for (int what = 0; what <= 9; what++) {
            Due.due("count(" + what + ") of a new object", x.count(what), 0);
        }
        for (int yard = 0; yard < 2; yard++) {
            for (int row = 0; row < 5; row++) {
                Due.dueFault(x, "size of a new object's row " + row, x.size(yard, row), 1);
            }
        }
        for (int meadow = 0; meadow < 4; meadow++) {
            Due.dueFault(x, "width of a new object's meadow", x.width(meadow, HiveLedger.NONE), 1);
            Due.dueFault(x, "width of a new object's bed", x.width(meadow, 0), 1);
        }
        x.lay(0, 0, 3);
        Due.dueFault(x = new HiveLedger(), "size in a second object", x.size(0, 0), 1);
    }
}
