import java.io.IOException;
import java.lang.reflect.Field;
import java.lang.reflect.Method;
import java.lang.reflect.Modifier;
import java.nio.file.Files;
import java.nio.file.Paths;
import java.util.ArrayList;
import java.util.Arrays;
import java.util.List;
import java.util.Set;
import java.util.TreeSet;
import java.util.regex.Matcher;
import java.util.regex.Pattern;

/** Rules of LANGUAGE.md that can be seen from the class and from its text; the face of the document. */
final class RulesTest {
    private static final Check CHECK = new Check("RulesTest");
    private static final String FACE = "feed program letter order orderTold load over peak bufferTold stepTold leastPeak "
        + "height heightAt lay clash sendOut outs pair bestPhase rule go compact roomTold holder again image back "
        + "kindTold count sheet cell copy lays taken";
    private static final String[] RULED_OUT = {
        "\\b(throws?|try|catch|synchronized|assert)\\b", "\\bpackage\\b", "::", "Exact\\b", "[^\\x00-\\x7f]",
        "^(?!\\s*(case|default)\\b).*->", "\\bSystem\\.(?!arraycopy\\b)", "\\b(Thread|Random|Runtime|Files?)\\b",
        "\\bMath\\.random\\b",
    };

    public static void main(String[] args) throws IOException {
        String source = Files.readString(Paths.get("src/main/java/BufferRoom.java"));
        String code = source.replaceAll("(?s)/\\*.*?\\*/", "").replaceAll("//[^\n]*", "");
        for (String word : RULED_OUT) {
            Matcher found = Pattern.compile(word, Pattern.MULTILINE).matcher(code);
            CHECK.due(word + (found.find() ? " as in " + found.group() : ""), found.reset().find() ? 1 : 0, 0);
        }
        lengths(code);
        face();
        for (Class<?> inside : BufferRoom.class.getDeclaredClasses()) {
            classInside(inside);
        }
        CHECK.due("some twelve classes", BufferRoom.class.getDeclaredClasses().length <= 14 ? 1 : 0, 1);
        CHECK.close();
    }

    private static void face() {
        int modifiers = BufferRoom.class.getModifiers();
        CHECK.due("public and final", Modifier.isPublic(modifiers) && Modifier.isFinal(modifiers) ? 1 : 0, 1);
        List<String> open = new ArrayList<>();
        for (Method method : BufferRoom.class.getDeclaredMethods()) {
            if (Modifier.isPublic(method.getModifiers())) {
                open.add(method.getName());
            } else {
                CHECK.due("no method but open or private: " + method.getName(),
                    Modifier.isPrivate(method.getModifiers()) || method.isSynthetic() ? 1 : 0, 1);
            }
        }
        CHECK.due("one constructor", BufferRoom.class.getConstructors().length, 1);
        CHECK.due("no other one", BufferRoom.class.getDeclaredConstructors().length, 1);
        CHECK.due("NONE", BufferRoom.NONE, -1);
        CHECK.due("BAD", BufferRoom.BAD, -2);
        CHECK.due("STATE", BufferRoom.STATE, -3);
        CHECK.due("FULL", BufferRoom.FULL, -4);
        CHECK.due("NO", BufferRoom.NO, -4611686018427387904L);
        Set<String> due = new TreeSet<>(Arrays.asList(FACE.split(" ")));
        CHECK.due("methods of the face, each once", open.size(), due.size());
        CHECK.due("methods of the face: " + open, new TreeSet<>(open).equals(due) ? 1 : 0, 1);
        for (Field field : BufferRoom.class.getDeclaredFields()) {
            boolean isFace = Arrays.asList("NONE", "BAD", "STATE", "FULL", "NO").contains(field.getName());
            boolean isOpen = Modifier.isPublic(field.getModifiers());
            CHECK.due("a constant of the face: " + field.getName(), isOpen ? 1 : 0, isFace ? 1 : 0);
            CHECK.due("no field but private: " + field.getName(),
                isOpen || Modifier.isPrivate(field.getModifiers()) ? 1 : 0, 1);
        }
        classOfOurs(BufferRoom.class);
    }

    private static void classInside(Class<?> inside) {
        String name = inside.getSimpleName();
        int modifiers = inside.getModifiers();
        CHECK.due(name + " is static", Modifier.isStatic(modifiers) ? 1 : 0, 1);
        CHECK.due(name + " is not open", Modifier.isPublic(modifiers) || Modifier.isProtected(modifiers) ? 1 : 0, 0);
        classOfOurs(inside);
    }

    private static void classOfOurs(Class<?> ours) {
        List<String> face = Arrays.asList(FACE.split(" "));
        int fields = 0;
        for (Method method : ours.getDeclaredMethods()) {
            String name = ours.getSimpleName() + "." + method.getName();
            CHECK.due(name + ": seven parameters at most", method.getParameterCount() <= 7 ? 1 : 0, 1);
            if (Modifier.isPrivate(method.getModifiers()) && !method.isSynthetic()) {
                CHECK.due(name + " bears no name of the face", face.contains(method.getName()) ? 1 : 0, 0);
            }
        }
        for (Field field : ours.getDeclaredFields()) {
            boolean isStatic = Modifier.isStatic(field.getModifiers());
            fields += isStatic ? 0 : 1;
            CHECK.due(ours.getSimpleName() + "." + field.getName() + ": what is static is final",
                isStatic && !Modifier.isFinal(field.getModifiers()) ? 1 : 0, 0);
        }
        CHECK.due(ours.getSimpleName() + " has some twenty fields", fields <= 24 ? 1 : 0, 1);
    }

    /** From the head of each method (its line ends with ") {" and begins with no such word) to its end. */
    private static void lengths(String code) {
        String[] lines = code.split("\n");
        Pattern head = Pattern.compile("^(\\s++)(?!if\\b|else\\b|for\\b|while\\b|switch\\b|do\\b|&&|\\|\\||\\}).*\\) \\{$");
        for (int i = 0; i < lines.length; i++) {
            Matcher found = head.matcher(lines[i]);
            if (found.matches()) {
                int end = i;
                while (end < lines.length && !lines[end].equals(found.group(1) + "}")) {
                    end++;
                }
                CHECK.due("line " + (i + 1) + " begins a short method", end - i <= 70 ? 1 : 0, 1);
            }
        }
    }
}
