import java.io.IOException;
import java.lang.reflect.InvocationTargetException;
import java.lang.reflect.Method;
import java.nio.file.Files;
import java.nio.file.Path;
import java.util.Set;
import java.util.TreeSet;
import java.util.regex.Matcher;
import java.util.regex.Pattern;

/** The calls that README.md shows answer what stands behind them there, and it shows every call of the face. */
public final class ReadmeTest {
    private static final Pattern CALL = Pattern.compile("room\\.(\\w+)\\((.*)\\);\\s*// (-?\\d+)(:.*)?");

    public static void main(String[] args) throws IOException, ReflectiveOperationException {
        ElevenOne room = new ElevenOne();
        Set<String> shown = new TreeSet<>();
        for (String line : Files.readAllLines(Path.of("README.md"))) {
            Matcher call = CALL.matcher(line);
            if (call.matches()) {
                shown.add(call.group(1));
                Due.due(line, answer(room, call.group(1), call.group(2)), Long.parseLong(call.group(3)));
            } else if (line.startsWith("room.")) {
                Due.same(line, "not a call with its answer", "a call with its answer");
            }
        }
        Set<String> face = new TreeSet<>();
        for (Method method : ElevenOne.class.getDeclaredMethods()) {
            if (java.lang.reflect.Modifier.isPublic(method.getModifiers())) {
                face.add(method.getName());
            }
        }
        Due.same("the calls shown", shown.toString(), face.toString());
        Due.finish();
    }

    private static long answer(ElevenOne room, String name, String told) throws ReflectiveOperationException {
        for (Method method : ElevenOne.class.getMethods()) {
            if (method.getName().equals(name)) {
                return invoke(room, method, told.isEmpty() ? new String[0] : told.split(", "));
            }
        }
        Due.same(name, "no such call", "a call");
        return 0;
    }

    private static long invoke(ElevenOne room, Method method, String[] told) throws ReflectiveOperationException {
        Object[] arguments = new Object[told.length];
        for (int i = 0; i < told.length; i++) {
            if (method.getParameterTypes()[i] == boolean.class) {
                arguments[i] = Boolean.valueOf(told[i]);
            } else {
                arguments[i] = told[i].startsWith("'") ? (int) told[i].charAt(1) : Integer.parseInt(told[i]);
            }
        }
        try {
            return ((Number) method.invoke(room, arguments)).longValue();
        } catch (InvocationTargetException e) {
            Due.same(method.getName(), "threw " + e.getCause(), "an answer");
            return 0;
        }
    }
}
