import java.lang.reflect.Constructor;
import java.lang.reflect.Field;
import java.lang.reflect.Method;
import java.lang.reflect.Modifier;
import java.nio.file.Files;
import java.nio.file.Path;
import java.util.ArrayList;
import java.util.Arrays;
import java.util.List;
import java.util.Set;
import java.util.TreeSet;
import java.util.regex.Matcher;
import java.util.regex.Pattern;

/** The public face as the document has it, and those rules of LANGUAGE.md that can be seen in the file or in the class. */
public final class FaceTest {
    private static final Path DOCUMENT = Path.of("../shared/DOC.md");
    private static final Path SOURCE = Path.of("src/main/java/UnseenClock.java");
    private static int wrong = 0;

    private static void due(boolean holds, String what) {
        if (!holds) {
            wrong++;
            System.out.println(what);
        }
    }

    public static void main(String[] args) throws Exception {
        checkMethods();
        checkMembers(UnseenClock.class);
        checkText(Files.readString(SOURCE));
        System.out.println(wrong == 0 ? "the face is as due" : wrong + " things are not as due");
        if (wrong != 0) System.exit(1);
    }

    private static void checkMethods() throws Exception {
        String document = Files.readString(DOCUMENT);
        String face = document.substring(document.indexOf("```java"), document.indexOf("## Terms"));
        Set<String> asked = new TreeSet<>();
        Matcher m = Pattern.compile("public int (\\w+)\\(([^)]*)\\);").matcher(face);
        while (m.find()) {
            List<String> types = new ArrayList<>();
            for (String part : m.group(2).isBlank() ? new String[0] : m.group(2).split(",")) types.add(part.trim().split(" ")[0]);
            asked.add(m.group(1) + types);
        }
        due(asked.size() == 50, "the document's face was read as " + asked.size() + " methods");
        Set<String> found = new TreeSet<>();
        for (Method method : UnseenClock.class.getDeclaredMethods()) {
            if (Modifier.isPrivate(method.getModifiers())) continue;
            due(Modifier.isPublic(method.getModifiers()) && !Modifier.isStatic(method.getModifiers()) && method.getReturnType() == int.class, "not of the face: " + method);
            found.add(method.getName() + Arrays.stream(method.getParameterTypes()).map(Class::getName).toList());
        }
        due(asked.equals(found), "asked: " + asked + "\nfound: " + found);
        for (Method method : UnseenClock.class.getDeclaredMethods())
            if (Modifier.isPrivate(method.getModifiers())) due(asked.stream().noneMatch(a -> a.startsWith(method.getName() + "[")), "a private method bears a public name: " + method);
    }

    private static void checkMembers(Class<?> main) throws Exception {
        due(Modifier.isFinal(main.getModifiers()) && Modifier.isPublic(main.getModifiers()), "the class is public and final");
        for (Constructor<?> c : main.getDeclaredConstructors()) due(Modifier.isPublic(c.getModifiers()) && c.getParameterCount() == 0, "not of the face: " + c);
        for (Field f : main.getDeclaredFields()) {
            boolean none = f.getName().equals("NONE") && Modifier.isPublic(f.getModifiers()) && f.getInt(null) == -1;
            due(none || Modifier.isPrivate(f.getModifiers()), "not of the face: " + f);
            checkStatic(f);
        }
        due(main.getDeclaredClasses().length <= 12, "too many classes");
        for (Class<?> inside : main.getDeclaredClasses()) {
            due(Modifier.isStatic(inside.getModifiers()) && !Modifier.isPublic(inside.getModifiers()), "a class inside is static and not public: " + inside);
            long fields = Arrays.stream(inside.getDeclaredFields()).filter(f -> !Modifier.isStatic(f.getModifiers())).count();
            due(fields <= 20, "too many fields: " + inside);
            for (Field f : inside.getDeclaredFields()) checkStatic(f);
        }
    }

    private static void checkStatic(Field f) {
        if (!Modifier.isStatic(f.getModifiers())) return;
        due(Modifier.isFinal(f.getModifiers()), "a static field that is not final: " + f);
        Set<Class<?>> kinds = Set.of(int.class, long.class, boolean.class, char.class, String.class, int[].class, long[].class, char[].class, byte[].class);
        due(kinds.contains(f.getType()), "a static field of another type: " + f);
    }

    private static void checkText(String source) {
        String bare = source.replaceAll("(?s)/\\*.*?\\*/", "").replaceAll("//[^\n]*", "").replaceAll("\"[^\"\n]*\"", "\"\"").replaceAll("'[^'\n]*'", "' '");
        for (String word : new String[] {"throw", "throws", "try", "catch", "synchronized", "assert", "Object", "hashCode", "toString", "protected", "volatile", "native"})
            due(!Pattern.compile("\\b" + word + "\\b").matcher(bare).find(), "the text has the word " + word);
        for (String sign : new String[] {"->", "::", "Exact(", "package ", "@"}) due(!bare.contains(sign), "the text has the sign " + sign);
        due(source.chars().allMatch(c -> c == '\n' || c >= 32 && c < 127), "the text has a sign beyond ASCII");
        Matcher imports = Pattern.compile("import ([\\w.]+);").matcher(bare);
        while (imports.find()) due(Set.of("java.util.Arrays", "java.util.ArrayList", "java.util.List").contains(imports.group(1)), "imported: " + imports.group(1));
        String[] lines = bare.split("\n");
        int begin = -1;
        for (int i = 0; i < lines.length; i++) {
            if (lines[i].matches(" {4}( {4})?[a-z].*\\(.*\\) \\{")) {
                begin = i;
                due(lines[i].split(",").length <= 7, "too many parameters: " + lines[i]);
            }
            if (begin >= 0 && lines[i].matches(" {4}( {4})?\\}") && lines[i].indexOf('}') == lines[begin].length() - lines[begin].stripLeading().length()) {
                due(i - begin < 60, "too long: " + lines[begin]);
                begin = -1;
            }
        }
    }
}
