import java.io.IOException;
import java.lang.reflect.Method;
import java.nio.file.Files;
import java.nio.file.Path;
import java.util.Map;
import java.util.regex.Matcher;
import java.util.regex.Pattern;

/** README.md tells calls of one palace with their answers: each is called in its order and held against its answer. */
public final class ReadmeTest {

    private static final Pattern CALL = Pattern.compile("palace\\.(\\w+)\\(([^)]*)\\);\\s*// (-?\\w+):");
    private static final Map<String, Integer> NAMES = Map.of("NONE", PalaceOfRooms.NONE, "UNKNOWN",
            PalaceOfRooms.UNKNOWN, "OUTSIDE", PalaceOfRooms.OUTSIDE, "NOT", PalaceOfRooms.NOT, "FULL",
            PalaceOfRooms.FULL);
    private static final Due due = new Due();

    public static void main(String[] args) throws IOException, ReflectiveOperationException {
        String page = Files.readString(Path.of("README.md"));
        PalaceOfRooms palace = new PalaceOfRooms();
        Matcher calls = CALL.matcher(page);
        int found = 0;
        while (calls.find()) {
            found++;
            int want = NAMES.containsKey(calls.group(3)) ? NAMES.get(calls.group(3)) : Integer.parseInt(calls.group(3));
            due.is(calls.group(), answerOf(palace, calls.group(1), calls.group(2)), want);
        }
        due.is("each call of README.md has an answer", found, page.split("palace\\.\\w+\\(", -1).length - 1);
        due.end();
    }

    private static int answerOf(PalaceOfRooms palace, String name, String told) throws ReflectiveOperationException {
        String[] texts = told.isBlank() ? new String[0] : told.split(",");
        for (Method method : PalaceOfRooms.class.getMethods()) {
            if (method.getName().equals(name) && method.getParameterCount() == texts.length) {
                Object[] values = new Object[texts.length];
                for (int i = 0; i < texts.length; i++) {
                    values[i] = valueOf(texts[i].trim(), method.getParameterTypes()[i]);
                }
                return (Integer) method.invoke(palace, values);
            }
        }
        throw new NoSuchMethodException(name);
    }

    private static Object valueOf(String text, Class<?> type) {
        if (type == boolean.class) {
            return Boolean.valueOf(text);
        }
        long value = 0;
        for (String part : text.split("\\|")) {
            String[] shifted = part.split("<<");
            value |= number(shifted[0].trim()) << (shifted.length > 1 ? number(shifted[1].trim()) : 0);
        }
        if (type == long.class) {
            return value;
        }
        return (int) value;
    }

    private static long number(String text) {
        String digits = text.replace("_", "").replace("L", "");
        return digits.startsWith("0b") ? Long.parseLong(digits.substring(2), 2) : Long.decode(digits);
    }
}
