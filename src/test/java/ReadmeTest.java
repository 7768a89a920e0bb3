import java.io.IOException;
import java.lang.reflect.Method;
import java.lang.reflect.Modifier;
import java.nio.file.Files;
import java.nio.file.Path;
import java.util.TreeSet;
import java.util.regex.Matcher;
import java.util.regex.Pattern;

/** Makes the calls that README.md shows, and compares each answer with the one that stands behind it there. */
public final class ReadmeTest extends Checks {
    private static final Pattern CALL = Pattern.compile("cake\\.(\\w+)\\((.*)\\);\\s+// (-?\\d+)(:.*)?");
    private static final Pattern TYPED = Pattern.compile("type\\(cake, \"(.*)\"\\);");

    public static void main(String[] args) throws ReflectiveOperationException, IOException {
        String readme = Files.readString(Path.of("README.md"));
        due("calls that are shown", examples(readme), 24);
        everyCallNamed(readme);
        tellAndEnd();
    }

    private static int examples(String readme) throws ReflectiveOperationException {
        RueCake cake = null;
        int shown = 0;
        for (String line : readme.split("\n")) {
            Matcher call = CALL.matcher(line);
            Matcher typed = TYPED.matcher(line);
            if (line.equals("RueCake cake = new RueCake();")) {
                cake = new RueCake();
            } else if (typed.matches()) {
                type(cake, typed.group(1));
            } else if (call.matches()) {
                shown++;
                due("README: " + line, answer(cake, call.group(1), call.group(2)), Integer.parseInt(call.group(3)));
            }
        }
        return shown;
    }

    private static int answer(RueCake cake, String name, String given) throws ReflectiveOperationException {
        String[] texts = given.isEmpty() ? new String[0] : given.split(", ");
        Class<?>[] types = new Class<?>[texts.length];
        Object[] numbers = new Object[texts.length];
        for (int i = 0; i < texts.length; i++) {
            types[i] = int.class;
            numbers[i] = Integer.decode(texts[i]);
        }
        return (Integer) RueCake.class.getMethod(name, types).invoke(cake, numbers);
    }

    /** The table of the calls has each call of the face once, and no other. */
    private static void everyCallNamed(String readme) {
        TreeSet<String> missing = new TreeSet<>();
        for (Method m : RueCake.class.getDeclaredMethods()) {
            if (Modifier.isPublic(m.getModifiers())) {
                missing.add(m.getName());
            }
        }
        for (String line : readme.split("\n")) {
            if (line.startsWith("| `")) {
                for (String name : line.split("\\|")[1].replace("`", "").trim().split(" ")) {
                    due("README names a call: " + name, missing.remove(name) ? 1 : 0, 1);
                }
            }
        }
        due("calls that README does not name: " + missing, missing.size(), 0);
    }
}
