import java.io.IOException;
import java.lang.reflect.Constructor;
import java.lang.reflect.Field;
import java.lang.reflect.Method;
import java.lang.reflect.Modifier;
import java.nio.file.Files;
import java.nio.file.Path;
import java.util.ArrayList;
import java.util.Arrays;
import java.util.List;
import java.util.TreeSet;
import java.util.regex.Pattern;
import java.util.stream.Collectors;

/** The class shows the document's face and nothing else, and keeps off what LANGUAGE.md forbids. */
public final class FaceTest {
    private static final String[] FORBIDDEN = {
        "throw", "throws", "try", "catch", "synchronized", "assert", "Object", "Random", "Thread", "package",
        "float", "double", "protected", "native", "transient", "volatile", "strictfp"};
    private static final List<String> CONSTANTS = List.of(
        "int", "long", "boolean", "char", "java.lang.String", "int[]", "long[]", "char[]", "byte[]");
    private static final Pattern METHOD = Pattern.compile("( {4}| {8})(?!if|for|while|switch|else|\\})\\S.*\\) \\{");

    private FaceTest() {
    }

    public static void main(String[] args) throws IOException {
        List<String> source = Files.readAllLines(Path.of("src/main/java/SunCourt.java"));
        List<String> face = faceOf(Files.readAllLines(Path.of("../shared/DOC.md")));
        Due.about("the face");
        headers(face, source);
        methods(face);
        otherMembers();
        Due.about("the language");
        classes();
        words(String.join("\n", source));
        methodsAreShort(source);
        objectsAreMadeWithTheCourt(source);
        Due.end();
    }

    /** The lines between the braces of the document's code block. */
    private static List<String> faceOf(List<String> document) {
        int first = document.indexOf("public final class SunCourt {");
        Due.holds("the document has a face", first > 0 && document.get(first - 1).equals("```java"));
        List<String> face = new ArrayList<>();
        for (int i = first + 1; !document.get(i).equals("}"); i++) {
            face.add(document.get(i).trim());
        }
        Due.is("a constructor and 23 methods", face.size(), 24);
        return face;
    }

    /** Each line of the face stands in the source with its parameters' names, and no other public one. */
    private static void headers(List<String> face, List<String> source) {
        List<String> due = new ArrayList<>();
        due.add("public final class SunCourt {");
        for (String line : face) {
            due.add(line.replace(";", " {"));
        }
        List<String> shown = new ArrayList<>();
        for (String line : source) {
            if (line.trim().startsWith("public ")) {
                shown.add(line.trim());
            }
        }
        Due.holds("headers are " + shown, shown.equals(due));
    }

    private static void methods(List<String> face) {
        TreeSet<String> due = new TreeSet<>();
        for (String line : face) {
            if (!line.equals("public SunCourt();")) {
                due.add(line.replaceAll("(int|boolean) \\w+(?=[,)])", "$1").replace(", ", ",").replace(";", ""));
            }
        }
        TreeSet<String> seen = new TreeSet<>();
        TreeSet<String> names = new TreeSet<>();
        for (Method method : SunCourt.class.getDeclaredMethods()) {
            if (!Modifier.isPrivate(method.getModifiers())) {
                seen.add(method.toString().replace("SunCourt.", ""));
                names.add(method.getName());
            }
        }
        Due.holds("methods are " + seen, seen.equals(due));
        noSecondBearer(SunCourt.class, names);
        for (Class<?> inside : SunCourt.class.getDeclaredClasses()) {
            noSecondBearer(inside, names);
        }
    }

    private static void noSecondBearer(Class<?> of, TreeSet<String> names) {
        for (Method method : of.getDeclaredMethods()) {
            boolean shown = of == SunCourt.class && Modifier.isPublic(method.getModifiers());
            Due.holds(method + " has a name of its own", shown || !names.contains(method.getName()));
            Due.holds(method + " takes seven or fewer", method.getParameterCount() <= 7);
        }
    }

    private static void otherMembers() {
        Due.is("public and final, nothing else", SunCourt.class.getModifiers(), Modifier.PUBLIC | Modifier.FINAL);
        Due.holds("of no other class", SunCourt.class.getSuperclass() == Object.class);
        Due.is("interfaces", SunCourt.class.getInterfaces().length, 0);
        Due.is("of no package", SunCourt.class.getName().indexOf('.'), -1);
        for (Field field : SunCourt.class.getDeclaredFields()) {
            Due.holds(field + " is private", Modifier.isPrivate(field.getModifiers()));
        }
        Constructor<?>[] constructors = SunCourt.class.getDeclaredConstructors();
        Due.is("constructors", constructors.length, 1);
        Due.holds("it is the document's", constructors[0].toString().equals("public SunCourt()"));
    }

    private static void classes() {
        Class<?>[] inside = SunCourt.class.getDeclaredClasses();
        Due.holds("twelve classes at most", inside.length < 12);
        fields(SunCourt.class);
        for (Class<?> one : inside) {
            Due.holds(one + " is static", Modifier.isStatic(one.getModifiers()));
            Due.holds(one + " is not public", !Modifier.isPublic(one.getModifiers())
                && !Modifier.isProtected(one.getModifiers()));
            Due.is(one + " has none inside", one.getDeclaredClasses().length, 0);
            fields(one);
        }
    }

    private static void fields(Class<?> of) {
        int own = 0;
        for (Field field : of.getDeclaredFields()) {
            if (Modifier.isStatic(field.getModifiers())) {
                Due.holds(field + " is final", Modifier.isFinal(field.getModifiers()));
                Due.holds(field + " is a constant", CONSTANTS.contains(field.getType().getTypeName()));
            } else {
                own++;
            }
        }
        Due.holds(of + " has some twenty fields: " + own, own <= 20);
    }

    private static void words(String text) {
        String code = text.replaceAll("(?s)/\\*.*?\\*/", "").replaceAll("//[^\n]*", "");
        for (String word : FORBIDDEN) {
            Due.holds("no " + word, !Pattern.compile("\\b" + word + "\\b").matcher(code).find());
        }
        Due.holds("no lambda and no method reference", !code.contains("->") && !code.contains("::"));
        Due.holds("nothing is imported but java.util.Arrays",
            code.replace("import java.util.Arrays;", "").indexOf("import") < 0);
        Due.holds("nothing of the library but what is listed",
            calls(code, "Arrays").equals(List.of("fill")) && calls(code, "Math").equals(List.of("max"))
                && calls(code, "Integer").equals(List.of("bitCount")) && !code.contains("System"));
        Due.holds("characters up to 255", text.chars().allMatch(c -> c <= 255));
    }

    private static List<String> calls(String code, String of) {
        return Pattern.compile("\\b" + of + "\\.(\\w+)").matcher(code).results()
            .map(found -> found.group(1)).distinct().sorted().collect(Collectors.toList());
    }

    private static void methodsAreShort(List<String> source) {
        int found = 0;
        for (int i = 0; i < source.size(); i++) {
            String line = source.get(i);
            if (METHOD.matcher(line).matches()) {
                String end = line.replaceAll("\\S.*", "") + "}";
                int length = source.subList(i, source.size()).indexOf(end);
                Due.holds(line.trim() + " is short: " + length, length > 0 && length < 60);
                found++;
            }
        }
        int declared = SunCourt.class.getDeclaredMethods().length + 1 + Arrays.stream(SunCourt.class.getDeclaredClasses())
            .mapToInt(inside -> inside.getDeclaredMethods().length).sum();
        Due.is("methods and the constructor", found, declared);
    }

    /** All calls of a run share one room, so a call makes nothing: what it needs is made with the object. */
    private static void objectsAreMadeWithTheCourt(List<String> source) {
        for (String line : source) {
            boolean field = line.matches(" {4,8}(private )?final [\\w\\[\\]]+ \\w+ = new .*;");
            Due.holds("no new thing in a call: " + line.trim(), !line.matches(".*\\bnew\\b.*") || field);
        }
    }
}
