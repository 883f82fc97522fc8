import java.io.IOException;
import java.lang.reflect.Constructor;
import java.lang.reflect.Field;
import java.lang.reflect.Member;
import java.lang.reflect.Method;
import java.lang.reflect.Modifier;
import java.nio.file.Files;
import java.nio.file.Path;
import java.util.Arrays;
import java.util.Set;
import java.util.TreeSet;
import java.util.regex.Matcher;
import java.util.regex.Pattern;

/** The public face, and those rules of LANGUAGE.md that can be seen from outside. */
public final class LanguageTest {

    private static final String[] FACE = {
        "door(int,int)", "away(int,int)", "marks(int,int)", "like(int,int)", "set(int,int)", "fall(int,int)",
        "put(int,int)", "clear(int)", "corner(int,int)", "where(int)", "days(int)", "walk(int)", "write(long,int)",
        "erase()", "fault()", "rules()", "bars(int,int)", "due()", "laid(long,int,int)", "cost(int)",
        "plan(int,int,int)", "judge(int,int,int)", "right(int,int)", "causes(int,int)", "asked(int,int)",
        "beside(int,int)", "answer(int,int,boolean)", "pupil(int,int)", "figures(int,int,int)",
        "code(long,int,int)", "enough(int)", "count(int)"};
    private static final String[] NOT_IN_THE_SOURCE = {"throw", "try", "catch", "synchronized", "assert", "->", "::",
        "hashCode", "toString", "protected", "static {", "Exact(", "package ", "native", "volatile", "System.out", "MAX_VALUE", "MIN_VALUE"};
    private static final Due due = new Due();

    public static void main(String[] args) throws IOException {
        face();
        classesInside();
        source(Files.readString(Path.of("src/main/java/PalaceOfRooms.java")));
        due.end();
    }

    private static void face() {
        Class<?> palace = PalaceOfRooms.class;
        due.is("public and final", palace.getModifiers() & (Modifier.PUBLIC | Modifier.FINAL), 17);
        Set<String> methods = new TreeSet<>();
        for (Method method : palace.getDeclaredMethods()) {
            boolean open = Modifier.isPublic(method.getModifiers());
            due.is(method + " is public or private", open ? 1 : 0, isPrivate(method) ? 0 : 1);
            if (open) {
                methods.add(method.toString().replaceAll(".*PalaceOfRooms\\.", ""));
                due.is(method + " answers an int", method.getReturnType() == int.class ? 1 : 0, 1);
            } else {
                due.is(method + " bears a name of the face", namesOfTheFace().contains(method.getName()) ? 1 : 0, 0);
            }
        }
        due.is("the face is " + methods, methods.equals(new TreeSet<>(Arrays.asList(FACE))) ? 1 : 0, 1);
        Set<String> constants = new TreeSet<>();
        for (Field field : palace.getDeclaredFields()) {
            if (Modifier.isPublic(field.getModifiers())) {
                constants.add(field.getName());
            } else {
                due.is(field + " is private", isPrivate(field) ? 1 : 0, 1);
            }
        }
        due.is("the constants", constants.equals(Set.of("NONE", "UNKNOWN", "OUTSIDE", "NOT", "FULL")) ? 1 : 0, 1);
        due.is("NONE", PalaceOfRooms.NONE, -1);
        due.is("UNKNOWN", PalaceOfRooms.UNKNOWN, -2);
        due.is("OUTSIDE", PalaceOfRooms.OUTSIDE, -3);
        due.is("NOT", PalaceOfRooms.NOT, -4);
        due.is("FULL", PalaceOfRooms.FULL, -5);
        Constructor<?>[] constructors = palace.getDeclaredConstructors();
        due.is("one constructor", constructors.length, 1);
        due.is("without parameters", constructors[0].getParameterCount(), 0);
        due.is("it is public", Modifier.isPublic(constructors[0].getModifiers()) ? 1 : 0, 1);
    }

    private static boolean isPrivate(Member member) {
        return Modifier.isPrivate(member.getModifiers());
    }

    private static Set<String> namesOfTheFace() {
        Set<String> names = new TreeSet<>();
        for (String method : FACE) {
            names.add(method.replaceAll("\\(.*", ""));
        }
        return names;
    }

    private static void classesInside() {
        Set<String> face = namesOfTheFace();
        Class<?>[] inside = PalaceOfRooms.class.getDeclaredClasses();
        due.is("some twelve classes", inside.length < 12 ? 1 : 0, 1);
        for (Class<?> one : inside) {
            due.is(one + " is static", Modifier.isStatic(one.getModifiers()) ? 1 : 0, 1);
            for (Method method : one.getDeclaredMethods()) {
                due.is(method + " bears a name of the face", face.contains(method.getName()) ? 1 : 0, 0);
                due.is(method + " has at most seven parameters", method.getParameterCount() <= 7 ? 1 : 0, 1);
            }
            for (Field field : one.getDeclaredFields()) {
                boolean changing = Modifier.isStatic(field.getModifiers()) && !Modifier.isFinal(field.getModifiers());
                due.is(field + " is static state", changing ? 1 : 0, 0);
            }
        }
    }

    private static void source(String whole) {
        String code = whole.replaceAll("(?s)/\\*.*?\\*/", "").replaceAll("//[^\n]*", "");
        for (String word : NOT_IN_THE_SOURCE) {
            due.is("the source has " + word, code.contains(word) ? 1 : 0, 0);
        }
        Matcher imports = Pattern.compile("import ([^;]*);").matcher(code);
        while (imports.find()) {
            due.is("import " + imports.group(1), imports.group(1).equals("java.util.Arrays") ? 1 : 0, 1);
        }
        for (String line : whole.split("\n")) {
            due.is("a line of over 125 signs: " + line, line.length() > 125 ? 1 : 0, 0);
        }
    }
}
