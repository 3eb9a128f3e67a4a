import java.io.IOException;
import java.lang.reflect.Constructor;
import java.lang.reflect.Field;
import java.lang.reflect.Method;
import java.lang.reflect.Modifier;
import java.nio.file.Files;
import java.nio.file.Path;
import java.util.Arrays;
import java.util.TreeSet;
import java.util.regex.Pattern;

/** The class shows the document's face and nothing else, and keeps off what LANGUAGE.md forbids. */
public final class FaceTest {
    private static final String[] FACE = {
        "int minute 4", "int block 7", "int share 3", "int most 2", "int cut 2", "int build 1", "int go 1",
        "int window 6", "int part 1", "int law 2", "int sun 3", "int light 4", "int taker 4", "int takes 3",
        "int hours 2", "int loss 3", "int high 1", "int breach 2", "int years 1", "boolean release 1",
        "int blockOf 2", "int windowOf 2", "int count 1"};
    private static final String[] FORBIDDEN = {
        "throw", "throws", "try", "catch", "synchronized", "assert", "Object", "Random", "Thread", "package"};

    private FaceTest() {
    }

    public static void main(String[] args) throws IOException {
        Due.about("the face");
        methods();
        otherMembers();
        innerClasses();
        Due.about("the language");
        source();
        Due.end();
    }

    private static void methods() {
        TreeSet<String> seen = new TreeSet<>();
        TreeSet<String> names = new TreeSet<>();
        for (Method method : SunCourt.class.getDeclaredMethods()) {
            if (!Modifier.isPrivate(method.getModifiers())) {
                Due.holds(method + " is public", Modifier.isPublic(method.getModifiers()));
                seen.add(method.getReturnType() + " " + method.getName() + " " + method.getParameterCount());
                names.add(method.getName());
            }
        }
        Due.holds("methods are " + seen, seen.equals(new TreeSet<>(Arrays.asList(FACE))));
        noSecondBearer(SunCourt.class, names);
        for (Class<?> inside : SunCourt.class.getDeclaredClasses()) {
            noSecondBearer(inside, names);
        }
    }

    private static void noSecondBearer(Class<?> of, TreeSet<String> names) {
        for (Method method : of.getDeclaredMethods()) {
            boolean shown = of == SunCourt.class && Modifier.isPublic(method.getModifiers());
            Due.holds(method + " has a name of its own", shown || !names.contains(method.getName()));
            Due.holds(method + " takes seven or fewer", method.getParameterCount() <= 7);
        }
    }

    private static void otherMembers() {
        Due.holds("public final", Modifier.isPublic(SunCourt.class.getModifiers())
            && Modifier.isFinal(SunCourt.class.getModifiers()));
        for (Field field : SunCourt.class.getDeclaredFields()) {
            Due.holds(field + " is private", Modifier.isPrivate(field.getModifiers()));
            Due.holds(field + " is final if static",
                !Modifier.isStatic(field.getModifiers()) || Modifier.isFinal(field.getModifiers()));
        }
        for (Constructor<?> constructor : SunCourt.class.getDeclaredConstructors()) {
            Due.holds(constructor + " is the document's",
                Modifier.isPublic(constructor.getModifiers()) && constructor.getParameterCount() == 0);
        }
    }

    private static void innerClasses() {
        Due.holds("twelve classes at most", SunCourt.class.getDeclaredClasses().length < 12);
        for (Class<?> inside : SunCourt.class.getDeclaredClasses()) {
            Due.holds(inside + " is static", Modifier.isStatic(inside.getModifiers()));
            Due.holds(inside + " is not public", !Modifier.isPublic(inside.getModifiers())
                && !Modifier.isProtected(inside.getModifiers()));
        }
    }

    private static void source() throws IOException {
        String text = Files.readString(Path.of("src/main/java/SunCourt.java"));
        String code = text.replaceAll("(?s)/\\*.*?\\*/", "").replaceAll("//[^\n]*", "");
        for (String word : FORBIDDEN) {
            Due.holds("no " + word, !Pattern.compile("\\b" + word + "\\b").matcher(code).find());
        }
        Due.holds("no lambda and no method reference", !code.contains("->") && !code.contains("::"));
        Due.holds("nothing is imported but java.util.Arrays",
            code.replace("import java.util.Arrays;", "").indexOf("import") < 0);
        Due.holds("characters up to 255", text.chars().allMatch(c -> c <= 255));
    }
}
