import java.io.IOException;
import java.lang.reflect.InvocationTargetException;
import java.lang.reflect.Method;
import java.nio.file.Files;
import java.nio.file.Path;
import java.util.HashMap;
import java.util.List;
import java.util.Map;
import java.util.regex.Matcher;
import java.util.regex.Pattern;

/** The example of README.md, in the folder where the test is run: each call must answer what is told behind it. */
public final class FondsRoomReadme {
    private static final String FIRST = "FondsRoom room = new FondsRoom();";
    private static final Pattern CALL =
        Pattern.compile("(?:int (\\w+) = )?room\\.(\\w+)\\(([^)]*)\\); +// (-?\\d+|true|false)(?:: .*)?");

    private final FondsRoom room = new FondsRoom();
    private final Map<String, Object> named = new HashMap<>();

    private static List<String> example() throws IOException {
        List<String> lines = Files.readAllLines(Path.of("README.md"));
        int from = lines.indexOf("```java") + 1;
        return lines.subList(from, from + lines.subList(from, lines.size()).indexOf("```"));
    }

    private Object value(String word) {
        if (word.equals("true") || word.equals("false")) {
            return Boolean.valueOf(word);
        }
        return named.containsKey(word) ? named.get(word) : (Object) Integer.valueOf(word);
    }

    private Object answer(String name, String words) throws IllegalAccessException, InvocationTargetException {
        String[] told = words.split(", ");
        Object[] values = new Object[told.length];
        for (int i = 0; i < told.length; i++) {
            values[i] = value(told[i]);
        }
        for (Method method : FondsRoom.class.getMethods()) {
            if (method.getName().equals(name) && method.getParameterCount() == values.length) {
                return method.invoke(room, values);
            }
        }
        return "no such call";
    }

    private boolean holds(String line) throws IllegalAccessException, InvocationTargetException {
        Matcher call = CALL.matcher(line);
        if (!call.matches()) {
            System.out.println("not a call with its answer: " + line);
            return false;
        }
        Object got = answer(call.group(2), call.group(3));
        if (call.group(1) != null) {
            named.put(call.group(1), got);
        }
        if (!String.valueOf(got).equals(call.group(4))) {
            System.out.println(line + " answered " + got);
            return false;
        }
        return true;
    }

    public static void main(String[] args) throws Exception {
        List<String> lines = example();
        int wrong = lines.size() > 1 && lines.get(0).equals(FIRST) ? 0 : 1;
        FondsRoomReadme reading = new FondsRoomReadme();
        for (int i = 1; i < lines.size(); i++) {
            wrong += reading.holds(lines.get(i)) ? 0 : 1;
        }
        System.out.println((lines.size() - wrong) + " passed, " + wrong + " failed");
        if (wrong != 0) {
            System.exit(1);
        }
    }
}
