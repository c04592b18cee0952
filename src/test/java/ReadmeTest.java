import java.lang.reflect.Method;
import java.nio.file.Files;
import java.nio.file.Path;
import java.util.TreeSet;
import java.util.regex.Matcher;
import java.util.regex.Pattern;

/** README.md tells how the class is used: what it shows must be what the class does. */
public final class ReadmeTest {
    private static final Pattern LINE = Pattern.compile("ledger\\.(\\w+)\\(([^)]*)\\);\\s*// (-?\\d+): .*");
    private static final Pattern ENTRY = Pattern.compile("\\| `(\\w+)\\(([^)]*)\\)` \\|.*");

    public static void main(String[] args) throws Exception {
        String[] readme = Files.readString(Path.of("README.md")).split("\n");
        example(readme);
        table(readme);
        Due.end();
    }

    private static void example(String[] readme) throws Exception {
        HiveLedger ledger = new HiveLedger();
        int shown = 0;
        for (String line : readme) {
            if (!line.startsWith("ledger.")) {
                continue;
            }
            Matcher m = LINE.matcher(line);
            Due.due("README's line has a call and its answer: " + line, m.matches() ? 1 : 0, 1);
            if (m.matches()) {
                Due.due("README's " + line, answer(ledger, m.group(1), m.group(2)), Integer.parseInt(m.group(3)));
                shown++;
            }
        }
        Due.due("README's example has calls", shown > 0 ? 1 : 0, 1);
    }

    private static int answer(HiveLedger ledger, String name, String list) throws Exception {
        String[] words = list.isEmpty() ? new String[0] : list.split(", ");
        Object[] values = new Object[words.length];
        Class<?>[] types = new Class<?>[words.length];
        for (int i = 0; i < words.length; i++) {
            values[i] = Integer.parseInt(words[i]);
            types[i] = int.class;
        }
        return (int) HiveLedger.class.getMethod(name, types).invoke(ledger, values);
    }

    private static void table(String[] readme) {
        TreeSet<String> listed = new TreeSet<>();
        for (String line : readme) {
            Matcher m = ENTRY.matcher(line);
            if (m.matches()) {
                listed.add(m.group(1) + " " + (m.group(2).isEmpty() ? 0 : m.group(2).split(", ").length));
            }
        }
        TreeSet<String> face = new TreeSet<>();
        for (Method m : HiveLedger.class.getDeclaredMethods()) {
            if (java.lang.reflect.Modifier.isPublic(m.getModifiers())) {
                face.add(m.getName() + " " + m.getParameterCount());
            }
        }
        Due.due("README's table " + listed + " has the calls of the face " + face, listed.equals(face) ? 1 : 0, 1);
    }
}
