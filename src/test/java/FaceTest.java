import java.io.IOException;
import java.lang.reflect.Constructor;
import java.lang.reflect.Field;
import java.lang.reflect.Method;
import java.lang.reflect.Modifier;
import java.nio.file.Files;
import java.nio.file.Path;
import java.util.Arrays;
import java.util.List;
import java.util.Set;
import java.util.TreeSet;
import java.util.stream.Collectors;

/** The public face is the document's, and the source keeps to what LANGUAGE.md leaves. */
public final class FaceTest {
    private static final Path DOCUMENT = Path.of("../shared/DOC.md");
    private static final Path SOURCE = Path.of("src/main/java/PlanetWorkshop.java");

    public static void main(String[] args) throws IOException {
        checkFace();
        checkMembers();
        checkSource();
        Check.end("FaceTest");
    }

    private static void checkFace() throws IOException {
        Set<String> due = new TreeSet<>();
        for (String line : Files.readAllLines(DOCUMENT)) {
            if (line.startsWith("    public ")) {
                int close = line.indexOf(')');
                String head = line.substring(4, close + 1).replaceAll("(\\w+) \\w+(?=[,)])", "$1");
                due.add(head + line.substring(close + 1).replace(";", ""));
            }
        }
        Check.same("constructors and methods in the document", due.size(), 58);
        Set<String> got = new TreeSet<>();
        for (Constructor<?> one : PlanetWorkshop.class.getConstructors()) {
            got.add("public " + one.getName() + parameters(one.getParameterTypes())
                    + exceptions(one.getExceptionTypes()));
        }
        for (Method one : PlanetWorkshop.class.getDeclaredMethods()) {
            if (Modifier.isPublic(one.getModifiers())) {
                got.add("public " + one.getReturnType().getName() + " " + one.getName()
                        + parameters(one.getParameterTypes()) + exceptions(one.getExceptionTypes()));
            }
        }
        Check.same("the face", got.toString(), due.toString());
    }

    private static String parameters(Class<?>[] types) {
        return Arrays.stream(types).map(Class::getName).collect(Collectors.joining(", ", "(", ")"));
    }

    private static String exceptions(Class<?>[] types) {
        return types.length == 0 ? "" : " throws "
                + Arrays.stream(types).map(Class::getSimpleName).collect(Collectors.joining(", "));
    }

    private static void checkMembers() {
        Set<String> publicNames = new TreeSet<>();
        Set<String> otherNames = new TreeSet<>();
        for (Method one : PlanetWorkshop.class.getDeclaredMethods()) {
            boolean isPublic = Modifier.isPublic(one.getModifiers());
            (isPublic ? publicNames : otherNames).add(one.getName());
            Check.yes(one + " is public or private",
                    isPublic || Modifier.isPrivate(one.getModifiers()) || one.isSynthetic());
        }
        for (Field one : PlanetWorkshop.class.getDeclaredFields()) {
            Check.yes(one + " is private", Modifier.isPrivate(one.getModifiers()));
        }
        int classes = 1;
        for (Class<?> inside : PlanetWorkshop.class.getDeclaredClasses()) {
            classes++;
            Check.yes(inside + " is static", Modifier.isStatic(inside.getModifiers()));
            for (Method one : inside.getDeclaredMethods()) {
                otherNames.add(one.getName());
            }
        }
        otherNames.retainAll(publicNames);
        Check.same("other methods with a public one's name", otherNames.toString(), "[]");
        Check.yes("at most 12 classes", classes <= 12);
        Check.yes("the class is final", Modifier.isFinal(PlanetWorkshop.class.getModifiers()));
    }

    private static void checkSource() throws IOException {
        String source = Files.readString(SOURCE);
        List<String> barred = List.of("->", "::", "catch", "finally", "synchronized", "assert ",
                "package ", "Exact(", "Object ", "String.format", "String.valueOf", ".getMessage");
        for (String sign : barred) {
            Check.no("the source holds " + sign, source.contains(sign));
        }
        List<String> imports = source.lines().filter(line -> line.startsWith("import "))
                .collect(Collectors.toList());
        Check.same("imports", imports.toString(), "[import java.util.NoSuchElementException;]");
        Check.yes("the source is ASCII", source.chars().allMatch(sign -> sign < 127));
    }
}
