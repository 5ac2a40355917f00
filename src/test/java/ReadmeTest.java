import java.lang.reflect.Method;
import java.nio.file.Files;
import java.nio.file.Path;
import java.util.HashMap;
import java.util.Map;
import java.util.Set;
import java.util.TreeSet;
import java.util.regex.Matcher;
import java.util.regex.Pattern;

/** Makes the calls of README.md, in their order; each answer is to be the one that stands there. */
final class ReadmeTest {
    private static final Check CHECK = new Check("ReadmeTest");
    private static final Pattern CALL = Pattern.compile("room\\.(\\w+)\\((.*)\\); *// (-?\\d+)\\b.*");
    private static final Pattern TELL = Pattern.compile("tell\\(room, \"(.*)\"\\);");

    private static BufferRoom room;
    private static int lines;

    public static void main(String[] args) throws Exception {
        Map<String, Method> face = new HashMap<>();
        for (Method method : BufferRoom.class.getDeclaredMethods()) {
            if (java.lang.reflect.Modifier.isPublic(method.getModifiers())) {
                face.put(method.getName(), method);
            }
        }
        Set<String> left = new TreeSet<>(face.keySet());
        boolean isCode = false;
        for (String line : Files.readAllLines(Path.of("README.md"))) {
            if (line.startsWith("```")) {
                isCode = line.equals("```java");
            } else if (isCode && !line.startsWith(" ") && !line.startsWith("static") && !line.equals("}")) {
                left.remove(make(line, face));
            }
        }
        CHECK.due("calls that README.md does not show: " + left + ";", left.size(), 0);
        CHECK.due("many lines", lines > 50 ? 1 : 0, 1);
        CHECK.close();
    }

    /** The name of the call that the line makes. */
    private static String make(String line, Map<String, Method> face) throws Exception {
        lines++;
        Matcher tell = TELL.matcher(line);
        Matcher call = CALL.matcher(line);
        if (line.equals("BufferRoom room = new BufferRoom();")) {
            room = new BufferRoom();
        } else if (tell.matches()) {
            Rooms.feed(room, tell.group(1));
        } else if (call.matches() && face.containsKey(call.group(1))) {
            CHECK.due(line, answer(face.get(call.group(1)), call.group(2)), Integer.parseInt(call.group(3)));
            return call.group(1);
        } else {
            CHECK.due("a line that is none: " + line, 0, 1);
        }
        return "";
    }

    private static int answer(Method method, String told) throws Exception {
        String[] parts = told.isEmpty() ? new String[0] : told.split(", ");
        Object[] arguments = new Object[parts.length];
        for (int i = 0; i < parts.length; i++) {
            long number = Long.decode(parts[i].replace("L", ""));
            if (method.getParameterTypes()[i] == long.class) {
                arguments[i] = number;
            } else {
                arguments[i] = (int) number;
            }
        }
        return (Integer) method.invoke(room, arguments);
    }
}
