import java.io.DataInputStream;
import java.io.IOException;
import java.lang.reflect.Constructor;
import java.lang.reflect.Field;
import java.lang.reflect.Method;
import java.lang.reflect.Modifier;
import java.nio.charset.StandardCharsets;
import java.nio.file.Files;
import java.nio.file.Path;
import java.util.ArrayList;
import java.util.List;
import java.util.Set;
import java.util.TreeSet;
import java.util.regex.Matcher;
import java.util.regex.Pattern;

/** The rules of ../shared/LANGUAGE.md that can be seen in the program's text and in the compiled classes. */
public final class LanguageTest {
    private static final Path PROGRAM = Path.of("src", "main", "java", "TileServer.java");
    private static final int LINES_OF_A_METHOD = 60;
    private static final int PARAMETERS = 7;
    private static final int CLASSES = 12;
    private static final int FIELDS = 20;

    private static final Set<String> EXCEPTIONS = Set.of("IllegalStateException", "IllegalArgumentException",
        "IndexOutOfBoundsException", "ArithmeticException", "UnsupportedOperationException", "NoSuchElementException",
        "RuntimeException");

    /** What rule 4 leaves of the library, beside exceptions and the static functions over int and long. */
    private static final Pattern LIBRARY = Pattern.compile("java/lang/Object\\.<init>"
        + "|java/lang/String\\.(length|charAt|isEmpty|equals|indexOf|substring|toCharArray|<init>)"
        + "|java/lang/StringBuilder\\.(<init>|append|charAt|setCharAt|setLength|deleteCharAt|reverse|length|toString)"
        + "|java/util/(ArrayList|List)\\.(<init>|add|get|set|remove|size|isEmpty|clear|of)"
        + "|java/lang/Integer\\.(valueOf|intValue)"
        + "|java/lang/System\\.arraycopy|java/util/Arrays\\.(copyOf|copyOfRange|fill)|\\[.*\\.clone");

    private static final Check CHECK = new Check();

    public static void main(String[] args) throws IOException {
        String text = Files.readString(PROGRAM, StandardCharsets.ISO_8859_1);
        List<Class<?>> classes = new ArrayList<>(List.of(TileServer.class.getDeclaredClasses()));
        classes.add(TileServer.class);
        CHECK.same("signs beyond 127", text.chars().filter(sign -> sign > 127).count(), 0L);
        atMost("rule 11: classes", classes.size(), CLASSES);
        wordsAreAllowed(withoutComments(text));
        methodsAreShort(text);
        for (Class<?> each : classes) {
            classIsAllowed(each);
            libraryIsAllowed(each);
        }
        CHECK.end();
    }

    private static String withoutComments(String text) {
        return text.replaceAll("(?s)/\\*.*?\\*/", "").replaceAll("//[^\n]*", "");
    }

    private static void wordsAreAllowed(String code) {
        CHECK.same("rule 2: lambdas and method references", found(code, "->|::"), List.of());
        CHECK.same("rule 4: imports", found(code, "import (?!java\\.util\\.(ArrayList|List|Iterator|Arrays|NoSuchElementException);).*"), List.of());
        CHECK.same("rules 5 and 6: words that are not allowed", found(code,
            "\\b(package|static \\{|finally|synchronized|assert|try \\(|volatile|transient|native|strictfp)"), List.of());
        String allowed = "new (" + String.join("|", EXCEPTIONS) + ")\\((\"[^\"]*\")?\\);";
        CHECK.same("rule 6: throws of another form", found(code, "\\bthrow (?!" + allowed + ").*"), List.of());
        CHECK.same("what the machine throws, or more than what code throws, is caught",
            found(code, "\\bcatch \\([^)]*(RuntimeException|Throwable|\\bException|Error|NullPointer|ClassCast|ArrayIndex|ArrayStore|NegativeArray)[^)]*\\)"),
            List.of());
        CHECK.same("rule 7: loops without an end", found(code, "for \\(;;\\)|for \\([^;]*;\\s*;.*|while \\(true\\)"), List.of());
    }

    private static List<String> found(String code, String pattern) {
        List<String> found = new ArrayList<>();
        Matcher matcher = Pattern.compile(pattern).matcher(code);
        while (matcher.find()) {
            found.add(matcher.group());
        }
        return found;
    }

    /** A method begins at a line that opens a block behind a list of parameters, and ends at the same depth. */
    private static void methodsAreShort(String text) {
        Matcher methods = Pattern.compile("(?ms)^( {4}| {8})(?!if |for |while |switch |\\})(\\w[^\n;=]*)\\([^;{}]*\\{\n.*?^\\1\\}$").matcher(text);
        int count = 0;
        while (methods.find()) {
            count++;
            atMost("rule 11: lines of " + methods.group(2), methods.group().lines().count(), LINES_OF_A_METHOD);
        }
        CHECK.same("methods were found", count > TileServer.class.getDeclaredMethods().length, true);
    }

    private static void classIsAllowed(Class<?> each) {
        int fields = 0;
        for (Field field : each.getDeclaredFields()) {
            String name = each.getSimpleName() + "." + field.getName();
            if (Modifier.isStatic(field.getModifiers())) {
                CHECK.same("rule 5: finality of " + name, Modifier.isFinal(field.getModifiers()), true);
            } else {
                fields++;
            }
            atMost("rule 3: dimensions of " + name, field.getType().getName().lastIndexOf('[') + 1, 2);
        }
        atMost("rule 11: fields of " + each.getSimpleName(), fields, FIELDS);
        for (Method method : each.getDeclaredMethods()) {
            atMost("rule 11: parameters of " + method, method.getParameterCount(), PARAMETERS);
            CHECK.same("rule 6: that a method of all objects is " + method,
                Set.of("equals", "hashCode", "toString").contains(method.getName()), false);
        }
        for (Constructor<?> constructor : each.getDeclaredConstructors()) {
            atMost("rule 11: parameters of " + constructor, constructor.getParameterCount(), PARAMETERS);
        }
    }

    private static void atMost(String what, long got, int most) {
        CHECK.same(what + " beyond " + most, Math.max(0, got - most), 0L);
    }

    /** Texts that are joined by + and lambdas show here, too, as what the compiler makes of them. */
    private static void libraryIsAllowed(Class<?> each) throws IOException {
        TreeSet<String> used = membersUsedBy(each);
        CHECK.same("something is used by " + each.getSimpleName(), used.isEmpty(), false);
        used.removeIf(member -> member.startsWith("TileServer") || LIBRARY.matcher(member.split(" ")[0]).matches()
            || isFunctionOfWholeNumbers(member) || isNewException(member));
        CHECK.same("rule 4: what " + each.getSimpleName() + " uses beyond", used, new TreeSet<>());
    }

    private static boolean isFunctionOfWholeNumbers(String member) {
        return member.matches("java/lang/(Integer|Long|Math)\\.\\w+ \\([IJ]*\\)[IJ]") && !member.contains("Exact ");
    }

    private static boolean isNewException(String member) {
        return EXCEPTIONS.contains(member.replaceAll("java/(lang|util)/(\\w+)\\.<init> \\((Ljava/lang/String;)?\\)V", "$2"));
    }

    /** Reads the fields and methods that a class names, as "owner.name type", from its pool of constants. */
    private static TreeSet<String> membersUsedBy(Class<?> each) throws IOException {
        TreeSet<String> members = new TreeSet<>();
        String file = each.getName() + ".class";
        try (DataInputStream in = new DataInputStream(TileServer.class.getResourceAsStream(file))) {
            in.skipBytes(8);
            int count = in.readUnsignedShort();
            String[] texts = new String[count];
            int[][] constants = new int[count][];
            for (int i = 1; i < count; i++) {
                constants[i] = constant(in, texts, i);
                // A long or a double takes two places.
                i += constants[i][0] == 5 || constants[i][0] == 6 ? 1 : 0;
            }
            for (int[] constant : constants) {
                if (constant != null && constant[0] >= 9 && constant[0] <= 11) {
                    int[] named = constants[constant[2]];
                    members.add(texts[constants[constant[1]][1]] + "." + texts[named[1]] + " " + texts[named[2]]);
                } else if (constant != null && constant[0] >= 15 && constant[0] <= 18) {
                    members.add("made by the machine: constant of the kind " + constant[0]);
                }
            }
        }
        return members;
    }

    private static int[] constant(DataInputStream in, String[] texts, int index) throws IOException {
        int kind = in.readUnsignedByte();
        switch (kind) {
            case 1:
                texts[index] = in.readUTF();
                return new int[] {kind};
            case 3, 4:
                return new int[] {kind, in.readInt()};
            case 5, 6:
                return new int[] {kind, in.readInt(), in.readInt()};
            case 7, 8, 16, 19, 20:
                return new int[] {kind, in.readUnsignedShort()};
            case 9, 10, 11, 12, 17, 18:
                return new int[] {kind, in.readUnsignedShort(), in.readUnsignedShort()};
            case 15:
                return new int[] {kind, in.readUnsignedByte(), in.readUnsignedShort()};
            default:
                throw new IOException("no kind of constant: " + kind);
        }
    }
}
