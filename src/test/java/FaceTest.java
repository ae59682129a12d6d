import java.io.IOException;
import java.lang.reflect.Executable;
import java.lang.reflect.Field;
import java.lang.reflect.Method;
import java.lang.reflect.Modifier;
import java.nio.file.Files;
import java.nio.file.Path;
import java.util.Arrays;
import java.util.List;
import java.util.Set;
import java.util.TreeSet;
import java.util.regex.Matcher;
import java.util.regex.Pattern;

/** The face of the document, and those rules of LANGUAGE.md that can be looked up in the class or its text. */
public final class FaceTest {
    private static final List<String> FACE = List.of(
        "begins/3", "scans/1", "writes/2", "steps/2", "undo/0", "cell/2", "writer/2", "read/3", "photo/2", "lone/1",
        "byTurns/0", "reads/2", "trial/3", "sees/3", "forget/0", "which/0", "ask/0", "keep/1", "back/1", "count/1");
    private static final Set<String> IMPORTS = Set.of(
        "java.util.Arrays", "java.util.ArrayList", "java.util.List", "java.util.Iterator");
    private static final String[] NOT_ALLOWED = {
        "\\bthrow\\b", "\\bthrows\\b", "\\btry\\b", "\\bcatch\\b", "\\bsynchronized\\b", "\\bassert\\b", "\\bvar\\b", "->", "::", "Exact\\(",
        "\\bpackage\\b", "\\bprotected\\b", "\\bnative\\b", "\\bThread\\b", "System\\.(?!arraycopy)", "Math\\.random", "\\bhashCode\\b", "\\btoString\\b"};

    public static void main(String[] args) throws IOException {
        constants();
        methods();
        membersOfTheClass();
        classesInside();
        text(Files.readString(Path.of("src/main/java/LentViews.java")));
        Due.end();
    }

    private static void constants() {
        Due.is("BAD", LentViews.BAD, -1);
        Due.is("STATE", LentViews.STATE, -2);
        Due.is("FULL", LentViews.FULL, -3);
        Due.is("NONE", LentViews.NONE, -9);
    }

    private static void methods() {
        Set<String> found = new TreeSet<>();
        Set<String> names = new TreeSet<>();
        for (Method method : LentViews.class.getDeclaredMethods()) {
            if (Modifier.isPublic(method.getModifiers())) {
                found.add(method.getName() + "/" + method.getParameterCount());
                names.add(method.getName());
                Due.isTrue(method + " answers an int", method.getReturnType() == int.class);
                Due.isTrue(method + " takes ints", Arrays.stream(method.getParameterTypes()).allMatch(t -> t == int.class));
            }
        }
        Due.isTrue("the methods of the face: " + found, found.equals(new TreeSet<>(FACE)));
        for (Method method : LentViews.class.getDeclaredMethods()) {
            boolean isPrivate = Modifier.isPrivate(method.getModifiers());
            Due.isTrue(method + " is public or private", isPrivate || Modifier.isPublic(method.getModifiers()));
            Due.isTrue(method + " bears no public one's name", !isPrivate || !names.contains(method.getName()));
        }
    }

    private static void membersOfTheClass() {
        int modifiers = LentViews.class.getModifiers();
        Due.isTrue("public and final", Modifier.isPublic(modifiers) && Modifier.isFinal(modifiers));
        Due.is("constructors", LentViews.class.getDeclaredConstructors().length, 1);
        Due.is("public constructors", LentViews.class.getConstructors().length, 1);
        Due.is("public fields", LentViews.class.getFields().length, 4);
        Due.is("public classes inside", LentViews.class.getClasses().length, 0);
        int own = 0;
        for (Field field : LentViews.class.getDeclaredFields()) {
            boolean isStatic = Modifier.isStatic(field.getModifiers());
            own += isStatic ? 0 : 1;
            Due.isTrue(field + " is a constant or private", Modifier.isPrivate(field.getModifiers()) || Modifier.isPublic(field.getModifiers()));
            Due.isTrue(field + ", static, is final", !isStatic || Modifier.isFinal(field.getModifiers()));
        }
        Due.isTrue("some twenty fields at most", own <= 20);
    }

    private static void classesInside() {
        Class<?>[] inside = LentViews.class.getDeclaredClasses();
        Due.isTrue("some twelve classes at most", inside.length <= 11);
        for (Class<?> each : inside) {
            Due.isTrue(each + " is static", Modifier.isStatic(each.getModifiers()));
            for (Executable method : each.getDeclaredMethods()) {
                Due.isTrue(method + " takes seven at most", method.getParameterCount() <= 7);
            }
            for (Field field : each.getDeclaredFields()) {
                Due.isTrue(field + ", static, is final", !Modifier.isStatic(field.getModifiers()) || Modifier.isFinal(field.getModifiers()));
            }
        }
    }

    private static void text(String source) {
        String code = source.replaceAll("(?s)/\\*.*?\\*/", " ").replaceAll("//[^\n]*", " ");
        for (String pattern : NOT_ALLOWED) {
            Due.isTrue("no " + pattern + " in the class", !Pattern.compile(pattern).matcher(code).find());
        }
        Matcher imports = Pattern.compile("import\\s+([\\w.*]+)\\s*;").matcher(code);
        while (imports.find()) {
            Due.isTrue("import of " + imports.group(1), IMPORTS.contains(imports.group(1)));
        }
        Due.isTrue("the text holds plain signs alone", source.chars().allMatch(sign -> sign < 128));
    }
}
