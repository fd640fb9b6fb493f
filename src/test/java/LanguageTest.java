import java.io.IOException;
import java.lang.reflect.Constructor;
import java.lang.reflect.Field;
import java.lang.reflect.Method;
import java.lang.reflect.Modifier;
import java.nio.file.Files;
import java.nio.file.Path;
import java.util.Random;
import java.util.Set;
import java.util.TreeSet;
import java.util.regex.Matcher;
import java.util.regex.Pattern;

/** The face of the document, and those rules of LANGUAGE.md that a plain look at the source can ask for. */
public final class LanguageTest {
    private static final String[] RULED_OUT = {"throw", "throws", "try", "catch", "finally", "synchronized", "assert",
        "import", "package", "volatile", "transient", "native", "protected", "float", "double", "System\\.out",
        "Exception", "Object", "hashCode", "toString", "equals", "\\w+Exact", "->", "::"};

    private LanguageTest() {
    }

    public static void main(String[] args) throws IOException, ReflectiveOperationException {
        String source = Files.readString(Path.of("src/main/java/OneBreath.java"));
        String bare = source.replaceAll("(?s)/\\*.*?\\*/", "").replaceAll("//[^\n]*", "");
        String document = Files.readString(Path.of("../shared/DOC.md"));
        face(document, bare);
        groups(document, source);
        members();
        lengths(source);
        made(bare);
        neverThrows();
        for (String word : RULED_OUT) {
            Pattern pattern = Pattern.compile(Character.isLetter(word.charAt(0)) ? "\\b" + word + "\\b" : word);
            Due.is("the source has " + word, pattern.matcher(bare).find() ? 1 : 0, 0);
        }
        for (char sign : source.toCharArray()) {
            if (sign > 126) {
                Due.is("a sign in the source", sign, '?');
            }
        }
        Due.is("at most twelve classes", OneBreath.class.getDeclaredClasses().length + 1 <= 12 ? 1 : 0, 1);
        Due.end("LanguageTest");
    }

    /** Each line of the document's face stands in the source, and no other public one does. */
    private static void face(String document, String source) {
        Set<String> due = new TreeSet<>();
        Matcher line = Pattern.compile("^ {4}public ([^;{]*\\))", Pattern.MULTILINE).matcher(document);
        while (line.find()) {
            due.add(line.group(1));
        }
        Set<String> got = new TreeSet<>();
        line = Pattern.compile("\\bpublic ([^;{]*\\)) \\{").matcher(source);
        while (line.find()) {
            got.add(line.group(1));
        }
        Due.is("how many lines the face has", due.size(), 42);
        Due.is("the face", got.toString(), due.toString());
    }

    /** The calls stand in the document's order, each group behind its headline. */
    private static void groups(String document, String source) {
        Matcher group = Pattern.compile("Ahead of the calls (.*) the interface says: (---- .*)\\.").matcher(document);
        int at = 0;
        int calls = 0;
        while (group.find()) {
            int next = source.indexOf("    // " + group.group(2) + "\n", at);
            Due.is("the headline " + group.group(2), next >= at ? 1 : 0, 1);
            at = Math.max(at, next);
            for (String name : group.group(1).replace("`", "").split(", ")) {
                next = source.indexOf("    public int " + name + "(", at);
                Due.is(name + " behind its headline", next >= at ? 1 : 0, 1);
                at = Math.max(at, next);
                calls++;
            }
        }
        Due.is("calls behind headlines", calls, 41);
    }

    /** Methods stay short: those of the class and, four blanks deeper, those inside its classes. */
    private static void lengths(String source) {
        String name = "";
        int lines = 0;
        for (String line : source.split("\n")) {
            lines++;
            if (line.matches(" {4}( {4})?[a-zA-Z].*\\) \\{")) {
                name = line.strip();
                lines = 1;
            } else if (line.matches(" {4}( {4})?\\}") && !name.isEmpty()) {
                Due.is(name + " is too long", lines > 60 ? 1 : 0, 0);
                name = "";
            }
        }
    }

    /** Objects are made with others that hold them, never by a call. */
    private static void made(String source) {
        for (String line : source.split("\n")) {
            if (line.matches(".*\\bnew\\b.*")) {
                boolean holds = line.matches(" *(private )?final [^=]* = new .*;") || line.strip().equals("bells[i] = new Bell();");
                Due.is("made by a call: " + line.strip(), holds ? 1 : 0, 1);
            }
        }
    }

    /** Any arguments in any state, far beyond the 512 calls, too: what is thrown ends this test. */
    private static void neverThrows() throws ReflectiveOperationException {
        int[] odd = {Integer.MIN_VALUE, Integer.MIN_VALUE + 1, -1000000001, -901, -900, -6, -1, 0, 1, 2, 3, 4, 5, 6, 7, 8, 9,
            10, 16, 20, 23, 24, 30, 32, 40, 41, 50, 60, 99, 100, 300, 301, 623, 900, 901, 1 << 16, Integer.MAX_VALUE};
        Random random = new Random(42);
        Method[] methods = OneBreath.class.getMethods();
        int asked = 0;
        for (int object = 0; object < 20; object++) {
            OneBreath x = new OneBreath();
            for (int i = 0; i < 20000; i++) {
                Method method = methods[random.nextInt(methods.length)];
                if (method.getDeclaringClass() == OneBreath.class) {
                    Class<?>[] types = method.getParameterTypes();
                    Object[] numbers = new Object[types.length];
                    for (int k = 0; k < types.length; k++) {
                        int number = random.nextInt(3) == 0 ? odd[random.nextInt(odd.length)] : random.nextInt(10);
                        numbers[k] = types[k] == long.class ? (Object) random.nextLong() : (Object) number;
                    }
                    method.invoke(x, numbers);
                    asked++;
                }
            }
        }
        Due.is("calls of any kind were made", asked > 100000 ? 1 : 0, 1);
    }

    private static void members() {
        Set<String> open = new TreeSet<>();
        for (Method method : OneBreath.class.getDeclaredMethods()) {
            if (Modifier.isPublic(method.getModifiers())) {
                open.add(method.getName());
            }
        }
        look(OneBreath.class, open);
        Due.is("the class is final", Modifier.isFinal(OneBreath.class.getModifiers()) ? 1 : 0, 1);
        for (Constructor<?> constructor : OneBreath.class.getDeclaredConstructors()) {
            Due.is("a constructor's parameters", constructor.getParameterCount(), 0);
        }
        for (Field field : OneBreath.class.getDeclaredFields()) {
            Due.is(field.getName() + " is private", Modifier.isPrivate(field.getModifiers()) ? 1 : 0, 1);
        }
        for (Class<?> inside : OneBreath.class.getDeclaredClasses()) {
            Due.is(inside.getName() + " is static", Modifier.isStatic(inside.getModifiers()) ? 1 : 0, 1);
            look(inside, open);
        }
    }

    private static void look(Class<?> type, Set<String> open) {
        for (Method method : type.getDeclaredMethods()) {
            boolean isOpen = type == OneBreath.class && Modifier.isPublic(method.getModifiers());
            boolean isPrivate = Modifier.isPrivate(method.getModifiers());
            String name = type.getSimpleName() + "." + method.getName();
            if (type == OneBreath.class) {
                Due.is(name + " is public or private", isOpen || isPrivate ? 1 : 0, 1);
            }
            Due.is(name + " bears a public name", !isOpen && open.contains(method.getName()) ? 1 : 0, 0);
            Due.is(name + " takes too much", method.getParameterCount() > 7 ? 1 : 0, 0);
        }
        int fields = 0;
        for (Field field : type.getDeclaredFields()) {
            boolean isStatic = Modifier.isStatic(field.getModifiers());
            fields += isStatic ? 0 : 1;
            Due.is(field.getName() + " is final if static", isStatic && !Modifier.isFinal(field.getModifiers()) ? 1 : 0, 0);
        }
        Due.is(type.getSimpleName() + " has too many fields", fields > 20 ? 1 : 0, 0);
    }
}
