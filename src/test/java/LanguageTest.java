import java.io.IOException;
import java.lang.reflect.Constructor;
import java.lang.reflect.Field;
import java.lang.reflect.Method;
import java.lang.reflect.Modifier;
import java.nio.file.Files;
import java.nio.file.Path;
import java.util.Set;
import java.util.TreeSet;
import java.util.regex.Matcher;
import java.util.regex.Pattern;

/** The face of the document, and those rules of LANGUAGE.md that a plain look at the source can ask for. */
public final class LanguageTest {
    private static final String[] RULED_OUT = {"throw", "throws", "try", "catch", "finally", "synchronized", "assert",
        "import", "package", "volatile", "transient", "native", "protected", "float", "double", "System\\.out",
        "Exception", "Object", "hashCode", "toString", "equals", "\\w+Exact", "->", "::"};

    private LanguageTest() {
    }

    public static void main(String[] args) throws IOException {
        String source = Files.readString(Path.of("src/main/java/OneBreath.java"));
        String bare = source.replaceAll("(?s)/\\*.*?\\*/", "").replaceAll("//[^\n]*", "");
        face(Files.readString(Path.of("../shared/DOC.md")), bare);
        members();
        for (String word : RULED_OUT) {
            Pattern pattern = Pattern.compile(Character.isLetter(word.charAt(0)) ? "\\b" + word + "\\b" : word);
            Due.is("the source has " + word, pattern.matcher(bare).find() ? 1 : 0, 0);
        }
        for (char sign : source.toCharArray()) {
            if (sign > 126) {
                Due.is("a sign in the source", sign, '?');
            }
        }
        Due.is("at most twelve classes", OneBreath.class.getDeclaredClasses().length + 1 <= 12 ? 1 : 0, 1);
        Due.end("LanguageTest");
    }

    /** Each line of the document's face stands in the source, and no other public one does. */
    private static void face(String document, String source) {
        Set<String> due = new TreeSet<>();
        Matcher line = Pattern.compile("^ {4}public ([^;{]*\\))", Pattern.MULTILINE).matcher(document);
        while (line.find()) {
            due.add(line.group(1));
        }
        Set<String> got = new TreeSet<>();
        line = Pattern.compile("\\bpublic ([^;{]*\\)) \\{").matcher(source);
        while (line.find()) {
            got.add(line.group(1));
        }
        Due.is("how many lines the face has", due.size(), 42);
        Due.is("the face", got.toString(), due.toString());
    }

    private static void members() {
        Set<String> open = new TreeSet<>();
        for (Method method : OneBreath.class.getDeclaredMethods()) {
            if (Modifier.isPublic(method.getModifiers())) {
                open.add(method.getName());
            }
        }
        look(OneBreath.class, open);
        Due.is("the class is final", Modifier.isFinal(OneBreath.class.getModifiers()) ? 1 : 0, 1);
        for (Constructor<?> constructor : OneBreath.class.getDeclaredConstructors()) {
            Due.is("a constructor's parameters", constructor.getParameterCount(), 0);
        }
        for (Field field : OneBreath.class.getDeclaredFields()) {
            Due.is(field.getName() + " is private", Modifier.isPrivate(field.getModifiers()) ? 1 : 0, 1);
        }
        for (Class<?> inside : OneBreath.class.getDeclaredClasses()) {
            Due.is(inside.getName() + " is static", Modifier.isStatic(inside.getModifiers()) ? 1 : 0, 1);
            look(inside, open);
        }
    }

    private static void look(Class<?> type, Set<String> open) {
        for (Method method : type.getDeclaredMethods()) {
            boolean isOpen = type == OneBreath.class && Modifier.isPublic(method.getModifiers());
            boolean isPrivate = Modifier.isPrivate(method.getModifiers());
            String name = type.getSimpleName() + "." + method.getName();
            if (type == OneBreath.class) {
                Due.is(name + " is public or private", isOpen || isPrivate ? 1 : 0, 1);
            }
            Due.is(name + " bears a public name", !isOpen && open.contains(method.getName()) ? 1 : 0, 0);
            Due.is(name + " takes too much", method.getParameterCount() > 7 ? 1 : 0, 0);
        }
        int fields = 0;
        for (Field field : type.getDeclaredFields()) {
            boolean isStatic = Modifier.isStatic(field.getModifiers());
            fields += isStatic ? 0 : 1;
            Due.is(field.getName() + " is final if static", isStatic && !Modifier.isFinal(field.getModifiers()) ? 1 : 0, 0);
        }
        Due.is(type.getSimpleName() + " has too many fields", fields > 20 ? 1 : 0, 0);
    }
}
