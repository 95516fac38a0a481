import java.io.IOException;
import java.lang.reflect.Field;
import java.lang.reflect.Method;
import java.lang.reflect.Modifier;
import java.nio.file.Files;
import java.nio.file.Path;
import java.util.List;
import java.util.Set;
import java.util.TreeSet;

/** The class keeps to the document's face and, as far as words of the file tell, to ../shared/LANGUAGE.md. */
public final class LanguageTest {
    private static final List<String> FACE = List.of(
        "int feed(int,int,int,int,int)", "boolean end(int)", "int fault(int)", "int text()", "int rule(int)",
        "long value(int)", "int about(int,int)", "long guise(int,int,int)", "int cost(int,int,int)",
        "int score(int,int)", "int five(int)", "int block(int,int)", "long whole(int,int)", "int part(int,int)",
        "int write(int)", "int octet(int)", "long peek(int)", "int add(long)", "int put(int,long)", "int drop()",
        "int swap(int,int)", "int set(int,int)", "int take()", "int status(int)", "int undo()", "int log(int,int)",
        "long common(int)", "long sum(int)", "int saved(int,int)", "int less(int)", "int best(int)", "int alone(int)",
        "int near(int,int)", "int most(int)", "int image()", "int back()", "int count(int)");

    private static final List<String> NOT_FOUND = List.of(
        "catch", "try {", "finally", "assert", "synchronized", "->", "::", "Double.", "Float.", "Exact(", "instanceof",
        "var ", "protected", "Object", "System.out", "nanoTime", "currentTime", "Random", "hashCode", "toString",
        "static {", "0.0 /", "% 0");

    public static void main(String[] args) throws IOException {
        face();
        words(Files.readString(Path.of("src/main/java/GuisePack.java")));
        Due.finish();
    }

    private static void face() {
        Set<String> seen = new TreeSet<>();
        for (Method method : GuisePack.class.getDeclaredMethods()) {
            int modifiers = method.getModifiers();
            if (method.isSynthetic() || Modifier.isPrivate(modifiers)) {
                continue;
            }
            StringBuilder types = new StringBuilder();
            for (Class<?> type : method.getParameterTypes()) {
                types.append(types.length() == 0 ? "" : ",").append(type.getName());
            }
            Due.is(method.getName() + " is public", Modifier.isPublic(modifiers) && !Modifier.isStatic(modifiers), true);
            seen.add(method.getReturnType().getName() + " " + method.getName() + "(" + types + ")");
        }
        Due.is("the face is that of the document: " + seen, seen.equals(new TreeSet<>(FACE)), true);
        for (Field field : GuisePack.class.getDeclaredFields()) {
            boolean constant = field.getName().equals("NONE") || field.getName().equals("HIDDEN");
            int modifiers = field.getModifiers();
            Due.is(field.getName() + " is hidden", Modifier.isPrivate(modifiers), !constant);
            Due.is(field.getName() + " is final, if static", Modifier.isFinal(modifiers) || !Modifier.isStatic(modifiers), true);
        }
        Due.is("constructors", GuisePack.class.getDeclaredConstructors().length, 1);
        namesInside();
    }

    private static void namesInside() {
        Set<String> names = new TreeSet<>();
        for (String signature : FACE) {
            names.add(signature.substring(signature.indexOf(' ') + 1, signature.indexOf('(')));
        }
        for (Method method : GuisePack.class.getDeclaredMethods()) {
            if (Modifier.isPrivate(method.getModifiers())) {
                Due.is("private " + method.getName() + " bears a public one's name", names.contains(method.getName()), false);
            }
        }
        for (Class<?> inside : GuisePack.class.getDeclaredClasses()) {
            Due.is(inside.getName() + " is static", Modifier.isStatic(inside.getModifiers()), true);
            Due.is(inside.getName() + " is not public", Modifier.isPublic(inside.getModifiers()), false);
            for (Method method : inside.getDeclaredMethods()) {
                Due.is(inside.getName() + "." + method.getName() + " is a public one's name",
                    names.contains(method.getName()), false);
                Due.is(method.getName() + " has at most seven parameters", method.getParameterCount() <= 7, true);
            }
        }
        Due.is("at most twelve classes", GuisePack.class.getDeclaredClasses().length <= 11, true);
    }

    private static void words(String file) {
        for (String word : NOT_FOUND) {
            Due.is("the file has \"" + word + "\"", file.contains(word), false);
        }
        Due.is("one import alone", file.split("\nimport |^import ", -1).length - 1, 1);
        Due.is("no package line", file.startsWith("package ") || file.contains("\npackage "), false);
        for (int i = 0; i < file.length(); i++) {
            if (file.charAt(i) > 126) {
                Due.is("sign " + (int) file.charAt(i) + " at " + i, true, false);
            }
        }
    }
}
