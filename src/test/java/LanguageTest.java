import java.io.IOException;
import java.lang.reflect.Constructor;
import java.lang.reflect.Field;
import java.lang.reflect.Method;
import java.lang.reflect.Modifier;
import java.nio.file.Files;
import java.nio.file.Path;
import java.util.List;
import java.util.Set;
import java.util.TreeSet;
import java.util.regex.Matcher;
import java.util.regex.Pattern;

/** The rules of LANGUAGE.md that can be counted in the class or looked up in its source; the label says the rule. */
public final class LanguageTest {
    private static final Path SOURCE = Path.of("src/main/java/ElevenOne.java");
    private static final Set<String> FACE = new TreeSet<>(List.of(
        "int thing(int)", "int juror(int,int,int,int)", "int holds(int,int)", "int of(int,int)", "int leans(int)",
        "int law(int)", "int set(int,int)", "int begin()", "int go(int)", "int talk(int)", "int run(int)",
        "int slips(boolean)", "int moved(int,int)", "int out(int)", "int one()", "int six(int,int)", "int lost(int)",
        "int leads(int)", "int hands()", "int leftOut(int)", "int worlds(int,int,int,int)", "int image()",
        "int restore()", "int count(int)", "int keep(int,int,int)", "int row(int,int,int)", "int put(int,int,int)",
        "long element(int,int)", "int copy(int,int,int,int,int)", "int voice(int)", "int toss(int)"));
    private static final Set<String> LIBRARY = Set.of("Integer", "Math", "IllegalStateException",
        "IllegalArgumentException", "UnsupportedOperationException");
    // Words of Java that the rules leave out, and the library's that they leave out of Math and System.
    private static final String[] LEFT_OUT = {"import", "package", "finally", "synchronized", "assert", "volatile",
        "transient", "native", "var", "yield", "sealed", "System", "Object", "Exact", "Thread", "Random"};

    public static void main(String[] args) throws IOException {
        face();
        classes();
        String source = Files.readString(SOURCE, java.nio.charset.StandardCharsets.ISO_8859_1);
        signs(source);
        String bare = withoutTextsAndComments(source);
        words(bare);
        headings(source);
        methodLengths(source.split("\n"));
        Due.finish();
    }

    // ---- rule 1

    private static void face() {
        Class<?> c = ElevenOne.class;
        Due.due("1: public and final", c.getModifiers() & (Modifier.PUBLIC | Modifier.FINAL), Modifier.PUBLIC | Modifier.FINAL);
        Constructor<?>[] made = c.getDeclaredConstructors();
        Due.due("1: one constructor", made.length, 1);
        Due.due("1: without arguments", made[0].getParameterCount(), 0);
        Set<String> open = new TreeSet<>();
        for (Method method : c.getDeclaredMethods()) {
            if (!Modifier.isPrivate(method.getModifiers())) {
                open.add(told(method));
            }
        }
        Due.same("1: the face", open.toString(), FACE.toString());
        for (Field field : c.getDeclaredFields()) {
            Due.due("1: private " + field.getName(), Modifier.isPrivate(field.getModifiers()) ? 1 : 0, 1);
        }
    }

    private static String told(Method method) {
        StringBuilder types = new StringBuilder();
        for (Class<?> type : method.getParameterTypes()) {
            types.append(types.length() > 0 ? "," : "").append(type.getSimpleName());
        }
        return method.getReturnType().getSimpleName() + " " + method.getName() + "(" + types + ")";
    }

    // ---- rules 1, 2, 5, 11

    private static void classes() {
        Class<?>[] inside = ElevenOne.class.getDeclaredClasses();
        Due.due("11: some twelve classes", inside.length + 1 <= 12 ? 1 : 0, 1);
        members(ElevenOne.class);
        for (Class<?> c : inside) {
            String name = c.getSimpleName();
            Due.due("1: not open: " + name, c.getModifiers() & (Modifier.PUBLIC | Modifier.PROTECTED), 0);
            Due.due("2: static: " + name, Modifier.isStatic(c.getModifiers()) ? 1 : 0, 1);
            members(c);
        }
    }

    private static void members(Class<?> c) {
        int fields = 0;
        for (Field field : c.getDeclaredFields()) {
            boolean isStatic = Modifier.isStatic(field.getModifiers());
            Due.due("5: " + field, isStatic && !Modifier.isFinal(field.getModifiers()) ? 1 : 0, 0);
            fields += isStatic ? 0 : 1;
        }
        Due.due("11: some twenty fields in " + c.getSimpleName(), fields <= 20 ? 1 : 0, 1);
        for (Method method : c.getDeclaredMethods()) {
            Due.due("11: at most seven parameters: " + method, method.getParameterCount() <= 7 ? 1 : 0, 1);
            if (Modifier.isPrivate(method.getModifiers())) {
                for (String open : FACE) {
                    Due.due("1: a private one bears a public one's name: " + method, open.contains(" " + method.getName() + "(") ? 1 : 0, 0);
                }
            }
        }
    }

    // ---- rules 2, 3, 4, 6

    private static void signs(String source) {
        for (int i = 0; i < source.length(); i++) {
            char sign = source.charAt(i);
            if (sign > 126 || sign < 32 && sign != '\n') {
                Due.due("4: the sign at " + i, sign, ' ');
            }
        }
    }

    private static String withoutTextsAndComments(String source) {
        return source.replaceAll("(?s)/\\*.*?\\*/", " ").replaceAll("//[^\n]*", " ")
            .replaceAll("'(\\\\.|[^'\\\\])'", "0").replaceAll("\"[^\"\n]*\"", "0");
    }

    private static void words(String bare) {
        for (String word : LEFT_OUT) {
            Due.due("left out: " + word, Pattern.compile("\\b" + word + "\\b").matcher(bare).find() ? 1 : 0, 0);
        }
        Due.due("2: no lambda", bare.indexOf("->"), -1);
        Due.due("2: no method reference", bare.indexOf("::"), -1);
        Due.due("5: no static block", Pattern.compile("static\\s*\\{").matcher(bare).find() ? 1 : 0, 0);
        Set<String> own = new TreeSet<>();
        own.add("ElevenOne");
        for (Class<?> c : ElevenOne.class.getDeclaredClasses()) {
            own.add(c.getSimpleName());
        }
        Matcher name = Pattern.compile("\\b[A-Z]\\w*[a-z]\\w*\\b").matcher(bare);
        while (name.find()) {
            boolean known = own.contains(name.group()) || LIBRARY.contains(name.group());
            Due.due("4: " + name.group(), known ? 1 : 0, 1);
        }
        Matcher thrown = Pattern.compile("\\bthrow\\b(?! new \\w+\\(0?\\);)").matcher(bare);
        Due.due("6: thrown with a written text", thrown.find() ? 1 : 0, 0);
        Matcher caught = Pattern.compile("\\bcatch\\s*\\((\\w+)").matcher(bare);
        while (caught.find()) {
            Due.due("6: caught " + caught.group(1), LIBRARY.contains(caught.group(1)) ? 1 : 0, 1);
        }
    }

    private static void headings(String source) {
        int before = 0;
        for (String heading : new String[] {"---- things, jurors", "---- talks", "---- the image, what is told", "---- shelves"}) {
            int at = source.indexOf(heading);
            Due.due("the document's heading: " + heading, at > before ? 1 : 0, 1);
            before = at;
        }
    }

    // ---- rule 11

    private static void methodLengths(String[] lines) {
        Pattern begins = Pattern.compile("( {4}| {8})(?! )[\\w\\[\\], ]+\\(.*\\)[\\w, ]* \\{");
        int methods = 0;
        for (int i = 0; i < lines.length; i++) {
            Matcher head = begins.matcher(lines[i]);
            if (!head.matches() || lines[i].matches("\\s*(if|for|while|switch|else|do|try)\\b.*")) {
                continue;
            }
            methods++;
            int end = i;
            while (end < lines.length && !lines[end].equals(head.group(1) + "}")) {
                end++;
            }
            Due.due("11: some sixty lines: " + lines[i].trim(), end - i < 60 ? 1 : 0, 1);
        }
        Due.due("methods were found", methods > 31 ? 1 : 0, 1);
    }
}
