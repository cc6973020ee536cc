import java.io.IOException;
import java.lang.reflect.Constructor;
import java.lang.reflect.Field;
import java.lang.reflect.Member;
import java.lang.reflect.Method;
import java.lang.reflect.Modifier;
import java.nio.file.Files;
import java.nio.file.Path;
import java.util.Arrays;
import java.util.Set;
import java.util.TreeSet;

/** The rules of LANGUAGE.md that can be seen from the source and from the class. */
public final class LanguageTest {
    private static final Set<String> FACE = new TreeSet<>(Arrays.asList(("feed end town fault has letter thing gang turn later idle best rota sees"
        + " way waits looked when lies nights chance steal back swap undo seed kept image octet on status").split(" ")));

    private static void source(String text) {
        String code = text.replaceAll("(?s)/\\*.*?\\*/", " ").replaceAll("//[^\n]*", " ").replaceAll("\"[^\"\n]*\"", "\"\"");
        for (String word : "throw throws try catch finally synchronized assert package native volatile transient".split(" ")) {
            Kit.due("rule 6, " + word, code.matches("(?s).*\\b" + word + "\\b.*"), false);
        }
        for (String sign : new String[] {"->", "::", "@", "\"\" +", "+ \"\"", "Object", "Exact", "double", "float"}) {
            Kit.due("no " + sign, code.contains(sign), false);
        }
        for (String line : code.split("\n")) {
            if (line.startsWith("import")) {
                Kit.due("rule 4, " + line, line.trim().equals("import java.util.Arrays;"), true);
            }
        }
        Kit.due("rule 3, texts", code.chars().allMatch(c -> c < 128), true);
        int lines = 0;
        for (String line : text.split("\n")) {
            lines = line.matches("( {4}| {8})[a-zA-Z].*\\) \\{") ? 0 : lines + 1;
            Kit.due("rule 11, a method's lines at " + line, line.matches("( {4}| {8})\\}") && lines > 60, false);
        }
    }

    private static void member(Class<?> type, Member m) {
        boolean isFace = Modifier.isPublic(m.getModifiers()) && (FACE.contains(m.getName()) || m.getName().equals("NONE"));
        Kit.due("rule 1, " + m, isFace || Modifier.isPrivate(m.getModifiers()), true);
    }

    private static void type(Class<?> type) {
        int fields = 0;
        for (Field f : type.getDeclaredFields()) {
            fields += Modifier.isStatic(f.getModifiers()) ? 0 : 1;
            Kit.due("rule 5, " + f, !Modifier.isStatic(f.getModifiers()) || Modifier.isFinal(f.getModifiers()), true);
        }
        Kit.due("rule 11, fields of " + type + ": " + fields, fields <= 20, true);
        for (Method m : type.getDeclaredMethods()) {
            Kit.due("rule 11, " + m, m.getParameterCount() <= 7, true);
            Kit.due("rule 1, " + m, FACE.contains(m.getName()) && !Modifier.isPublic(m.getModifiers()), false);
        }
    }

    public static void main(String[] args) throws IOException {
        source(Files.readString(Path.of("src/main/java/RotaMuseum.java")));
        Class<?> face = RotaMuseum.class;
        Set<String> found = new TreeSet<>();
        for (Method m : face.getDeclaredMethods()) {
            member(face, m);
            if (Modifier.isPublic(m.getModifiers())) {
                found.add(m.getName());
            }
        }
        Kit.due("the whole face", found.equals(FACE), true);
        for (Field f : face.getDeclaredFields()) {
            member(face, f);
        }
        for (Constructor<?> c : face.getDeclaredConstructors()) {
            Kit.due("the constructor", Modifier.isPublic(c.getModifiers()) && c.getParameterCount() == 0, true);
        }
        Kit.due("public and final", face.getModifiers(), Modifier.PUBLIC | Modifier.FINAL);
        type(face);
        for (Class<?> inside : face.getDeclaredClasses()) {
            Kit.due("rule 2, " + inside, Modifier.isStatic(inside.getModifiers()), true);
            type(inside);
        }
        Kit.due("rule 11, classes", face.getDeclaredClasses().length + 1 <= 12, true);
        Kit.finish("LanguageTest");
    }
}
