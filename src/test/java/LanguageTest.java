import java.io.IOException;
import java.lang.reflect.Constructor;
import java.lang.reflect.Field;
import java.lang.reflect.Method;
import java.lang.reflect.Modifier;
import java.nio.file.Files;
import java.nio.file.Path;
import java.util.ArrayList;
import java.util.List;
import java.util.TreeSet;
import java.util.regex.Matcher;
import java.util.regex.Pattern;

/** The face of the document, and those rules of LANGUAGE.md that can be seen in the text of the program. */
public final class LanguageTest {
    private static final String[] FACE = {
        "int mine(int,int,int,int)", "int ofGallery(int,int)", "int bad(int)", "int foul(int,int)",
        "int breed(int,int)", "int door(int,int)", "int say(int,int)", "int hush(int)", "int blow(int)",
        "int shift(int,int,int,int,int)", "int order(int,int,int,int,int)", "int shut(int,int,int,int,int)",
        "int rests()", "int clears(int,int)", "int perches(int)", "int found(int,int,int,int)",
        "int reading(int,int,int)", "int back(int)", "int strengths(int)", "int kinds(int)", "long odds(int,int)",
        "int sheet(int,int,int)", "int lose(int)", "int put(int,int,int)", "long cell(int,int,int)",
        "int copy(int,int,int,int,int)", "int tell(int)", "int sign(int)", "int as(int,int)", "int trace()",
        "int fault()", "int many(int)"
    };
    private static final String[] CONSTANTS = {"UNKNOWN", "OUTSIDE", "STATE", "FULL", "NONE", "LOST"};
    private static final String[] WORDS_OUTSIDE = {
        "import", "package", "throw", "throws", "try", "catch", "finally", "synchronized", "assert", "float", "double",
        "equals", "hashCode", "toString", "System\\.(?!arraycopy)", "->", "::", "volatile", "native", "transient",
        "protected", "goto", "var"
    };
    private static final List<String> LIBRARY = List.of("Math.max", "Math.min", "Math.abs", "Integer.bitCount",
            "System.arraycopy");
    private static final int MOST_CLASSES = 12, MOST_FIELDS = 20;
    private static int wrong = 0;

    public static void main(String[] args) throws IOException {
        face();
        String source = Files.readString(Path.of("src/main/java/GalleryBirds.java"));
        String code = withoutComments(source);
        for (String word : WORDS_OUTSIDE) {
            boolean plain = Character.isLetter(word.charAt(0));
            Matcher found = Pattern.compile(plain ? "\\b" + word + (word.contains("(") ? "" : "\\b") : word).matcher(code);
            holds("the program does without " + word, !found.find());
        }
        libraryIsKept(code);
        methodsAreShort(code);
        classesAreSmall();
        noCallThrows();
        for (char sign : source.toCharArray()) {
            if (sign > 126) {
                holds("signs of the program are plain: " + (int) sign, false);
            }
        }
        System.out.println(wrong == 0 ? "the program keeps to the rules that are looked at" : wrong + " rules are broken");
        if (wrong != 0) {
            System.exit(1);
        }
    }

    private static void holds(String rule, boolean is) {
        if (!is) {
            wrong++;
            System.out.println("broken: " + rule);
        }
    }

    private static void face() {
        Class<?> c = GalleryBirds.class;
        holds("the class is public and final", Modifier.isPublic(c.getModifiers()) && Modifier.isFinal(c.getModifiers()));
        TreeSet<String> want = new TreeSet<>(List.of(FACE));
        TreeSet<String> got = new TreeSet<>();
        TreeSet<String> publicNames = new TreeSet<>();
        List<String> privateNames = new ArrayList<>();
        for (Method m : c.getDeclaredMethods()) {
            if (Modifier.isPublic(m.getModifiers())) {
                got.add(signature(m));
                publicNames.add(m.getName());
            } else {
                holds("a method is public or private: " + m.getName(), Modifier.isPrivate(m.getModifiers()));
                privateNames.add(m.getName());
            }
        }
        holds("the public methods are the document's: " + got, got.equals(want));
        for (Class<?> inner : c.getDeclaredClasses()) {
            holds("a class inside is static: " + inner, Modifier.isStatic(inner.getModifiers()));
            holds("a class inside is not public: " + inner, !Modifier.isPublic(inner.getModifiers()));
            for (Method m : inner.getDeclaredMethods()) {
                privateNames.add(m.getName());
            }
        }
        for (String name : privateNames) {
            holds("no private method bears a public one's name: " + name, !publicNames.contains(name));
        }
        fields(c);
        for (Constructor<?> made : c.getDeclaredConstructors()) {
            holds("one public constructor without parameters",
                    Modifier.isPublic(made.getModifiers()) && made.getParameterCount() == 0);
        }
    }

    private static String signature(Method m) {
        StringBuilder s = new StringBuilder(m.getReturnType().getName()).append(' ').append(m.getName()).append('(');
        for (int p = 0; p < m.getParameterCount(); p++) {
            s.append(p == 0 ? "" : ",").append(m.getParameterTypes()[p].getName());
        }
        return s.append(')').toString();
    }

    private static void fields(Class<?> c) {
        TreeSet<String> constants = new TreeSet<>();
        for (Field f : c.getDeclaredFields()) {
            int is = f.getModifiers();
            if (Modifier.isPublic(is)) {
                constants.add(f.getName());
                holds("a public field is a constant: " + f.getName(), Modifier.isStatic(is) && Modifier.isFinal(is));
            } else {
                holds("a field is private: " + f.getName(), Modifier.isPrivate(is));
            }
            holds("a static field is final: " + f.getName(), !Modifier.isStatic(is) || Modifier.isFinal(is));
        }
        holds("the constants are the document's: " + constants, constants.equals(new TreeSet<>(List.of(CONSTANTS))));
    }

    /** Rule 7: any arguments in any state; what the answers are is not looked at here. */
    private static void noCallThrows() {
        int[] any = {0, 1, 2, 3, 0, 1, 2, 3, 4, 5, 6, 7, 10, 20, 30, 40, 60, -1, -2, 256, Integer.MIN_VALUE, Integer.MAX_VALUE};
        String text = "m2478;g351;n260;b941;g191";
        long seed = 7;
        for (int run = 0; run < 200; run++) {
            GalleryBirds x = new GalleryBirds();
            x.sheet(0, 0, text.length());
            for (int i = 0; i < text.length(); i++) {
                x.put(0, i, text.charAt(i));
            }
            if (run % 4 != 0) {
                x.mine(0, 0, 0, text.length());
            }
            for (int call = 0; call < 400; call++) {
                for (Method m : GalleryBirds.class.getDeclaredMethods()) {
                    Object[] numbers = new Object[m.getParameterCount()];
                    for (int p = 0; p < numbers.length; p++) {
                        seed = seed * 6364136223846793005L + 1442695040888963407L;
                        numbers[p] = any[(int) ((seed >>> 33) % any.length)];
                    }
                    if (Modifier.isPublic(m.getModifiers()) && !answers(x, m, numbers)) {
                        return;
                    }
                }
            }
        }
    }

    private static boolean answers(GalleryBirds x, Method m, Object[] numbers) {
        try {
            m.invoke(x, numbers);
            return true;
        } catch (ReflectiveOperationException thrown) {
            holds("no call throws: " + m.getName() + List.of(numbers) + " " + thrown.getCause(), false);
            return false;
        }
    }

    /** What is called by a class's name is of the library; calls within the class need no name. */
    private static void libraryIsKept(String code) {
        Matcher named = Pattern.compile("\\b([A-Z]\\w*\\.\\w+)\\s*\\(").matcher(code);
        while (named.find()) {
            holds("a call of the library is one of those that are told: " + named.group(1), LIBRARY.contains(named.group(1)));
        }
    }

    private static void classesAreSmall() {
        List<Class<?>> all = new ArrayList<>(List.of(GalleryBirds.class.getDeclaredClasses()));
        all.add(GalleryBirds.class);
        holds("the file has so many classes: " + all.size(), all.size() <= MOST_CLASSES);
        for (Class<?> c : all) {
            int fields = 0;
            for (Field f : c.getDeclaredFields()) {
                fields += Modifier.isStatic(f.getModifiers()) ? 0 : 1;
            }
            holds("a class has few fields: " + c + " " + fields, fields <= MOST_FIELDS);
        }
    }

    private static String withoutComments(String source) {
        return source.replaceAll("(?s)/\\*.*?\\*/", "").replaceAll("//[^\n]*", "");
    }

    /** A method begins with a line that ends with ") {" at a class's depth, and ends with its brace there. */
    private static void methodsAreShort(String code) {
        String[] lines = code.split("\n");
        for (int at = 0; at < lines.length; at++) {
            Matcher head = Pattern.compile("^(    |        )(?!if|for|while|switch)\\w[^;=]*\\(.*\\) \\{$").matcher(lines[at]);
            if (head.find()) {
                int end = at;
                while (end < lines.length && !lines[end].equals(head.group(1) + "}")) {
                    end++;
                }
                holds("a method is short: " + lines[at].trim(), end - at <= 60);
                String inside = lines[at].substring(lines[at].indexOf('(') + 1, lines[at].lastIndexOf(')'));
                holds("a method takes at most seven: " + lines[at].trim(), inside.split(",").length <= 7);
            }
        }
    }
}
