import java.io.IOException;
import java.lang.reflect.Constructor;
import java.lang.reflect.Field;
import java.lang.reflect.Method;
import java.lang.reflect.Modifier;
import java.nio.file.Files;
import java.nio.file.Path;
import java.util.Arrays;
import java.util.Set;
import java.util.TreeSet;
import java.util.regex.Matcher;
import java.util.regex.Pattern;

/** The class has the document's face and no other, and keeps to those rules of LANGUAGE.md that a search can see. */
public final class FaceTest {
    private static final String SOURCE = "src/main/java/FelledByNames.java";
    private static final String[] FACE = {"hold 3", "holds 2", "talk 2", "talkOf 1", "set 2", "tree 4", "ofTree 2", "change 3",
        "become 2", "as 2", "feed long", "text 1", "law 4", "days 1", "loose 1", "then 3", "when 1", "down 1", "gossip 2",
        "about 2", "talked 2", "crash 1", "keeper 2", "order 1", "timber 1", "safe 1", "odds 3", "seed 1", "voice 3",
        "trace 1", "sheet 3", "put 3", "move 5", "talks 1", "judge 1", "image 0", "restore 0", "tell 1", "check 0",
        "count 1", "told 1"};
    private static int wrong = 0;

    private static void must(boolean so, String what) {
        if (!so) {
            wrong++;
            System.out.println("not so: " + what);
        }
    }

    public static void main(String[] args) throws IOException {
        face();
        insides();
        source();
        System.out.println(wrong == 0 ? "the face is the document's" : wrong + " rules are broken");
        if (wrong != 0) {
            System.exit(1);
        }
    }

    private static String signature(Method method) {
        Class<?>[] of = method.getParameterTypes();
        if (of.length == 2 && of[0] == long.class && of[1] == int.class) {
            return method.getName() + " long";
        }
        for (Class<?> type : of) {
            must(type == int.class, method.getName() + " takes ints alone");
        }
        return method.getName() + " " + of.length;
    }

    private static void face() {
        Class<?> type = FelledByNames.class;
        must(Modifier.isPublic(type.getModifiers()) && Modifier.isFinal(type.getModifiers()), "public and final");
        Constructor<?>[] made = type.getDeclaredConstructors();
        must(made.length == 1 && made[0].getParameterCount() == 0 && Modifier.isPublic(made[0].getModifiers()),
            "one public constructor");
        Set<String> due = new TreeSet<>(Arrays.asList(FACE));
        Set<String> names = new TreeSet<>();
        Set<String> found = new TreeSet<>();
        for (String one : FACE) {
            names.add(one.substring(0, one.indexOf(' ')));
        }
        for (Method method : type.getDeclaredMethods()) {
            if (Modifier.isPublic(method.getModifiers())) {
                found.add(signature(method));
                must(method.getReturnType() == int.class, method.getName() + " answers an int");
                must(!Modifier.isStatic(method.getModifiers()), method.getName() + " is not static");
            } else {
                must(Modifier.isPrivate(method.getModifiers()), method.getName() + " is private");
                must(!names.contains(method.getName()), method.getName() + " is a public name");
            }
        }
        must(found.equals(due), "the methods are " + due + ", but found " + found);
        for (Field field : type.getDeclaredFields()) {
            must(Modifier.isPrivate(field.getModifiers()), field.getName() + " is private");
        }
    }

    private static void insides() {
        Class<?>[] inside = FelledByNames.class.getDeclaredClasses();
        must(inside.length <= 11, "some twelve classes");
        for (Class<?> type : inside) {
            must(Modifier.isStatic(type.getModifiers()), type.getName() + " is static");
            int fields = 0;
            for (Field field : type.getDeclaredFields()) {
                boolean still = Modifier.isStatic(field.getModifiers());
                must(!still || Modifier.isFinal(field.getModifiers()), field.getName() + " is final");
                fields += still ? 0 : 1;
            }
            must(fields <= 20, type.getName() + " has some twenty fields");
            for (Method method : type.getDeclaredMethods()) {
                must(method.getParameterCount() <= 7, method.getName() + " takes at most seven");
            }
        }
    }

    private static void source() throws IOException {
        String text = Files.readString(Path.of(SOURCE));
        for (char sign : text.toCharArray()) {
            must(sign < 128, "plain signs alone");
        }
        String code = text.replaceAll("(?s)/\\*.*?\\*/", "").replaceAll("//[^\n]*", "")
            .replaceAll("\"[^\"\n]*\"", "\"\"").replaceAll("'[^'\n]+'", "' '");
        Matcher bad = Pattern.compile("\\b(throw|throws|try|catch|synchronized|assert|package|protected|System\\.(?!arraycopy)\\w+"
            + "|Random|Thread|\\w+Exact|hashCode|toString|volatile|native)\\b|->|::").matcher(code);
        while (bad.find()) {
            must(false, "no " + bad.group());
        }
        Matcher imports = Pattern.compile("import ([\\w.]+);").matcher(code);
        while (imports.find()) {
            must(imports.group(1).matches("java\\.util\\.(Arrays|ArrayList|List|Iterator)"), "import " + imports.group(1));
        }
        int begun = -1;
        String[] lines = code.split("\n");
        for (int i = 0; i < lines.length; i++) {
            if (lines[i].matches(" {4}(?: {4})?[\\w<>\\[\\] ]+\\(.*\\{")) {
                begun = i;
            }
            if (lines[i].matches(" {4}(?: {4})?\\}") && begun >= 0) {
                must(i - begun < 60, "a method of less than sixty lines at line " + begun);
                begun = -1;
            }
        }
    }
}
