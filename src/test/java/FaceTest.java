import java.io.IOException;
import java.lang.reflect.Constructor;
import java.lang.reflect.Field;
import java.lang.reflect.Method;
import java.lang.reflect.Modifier;
import java.nio.file.Files;
import java.nio.file.Path;
import java.util.ArrayList;
import java.util.Arrays;
import java.util.List;
import java.util.TreeSet;
import java.util.regex.Matcher;
import java.util.regex.Pattern;

/** The class has the document's face and no more, and its file keeps to those rules of LANGUAGE.md that can be read off it. */
public final class FaceTest {
    private static final Path DOCUMENT = Path.of("../shared/DOC.md");
    private static final Path SOURCE = Path.of("src/main/java/IceKeys.java");

    public static void main(String[] args) throws IOException {
        face();
        constants();
        visibility();
        nestedClasses();
        source();
        Check.end("FaceTest");
    }

    /** Methods as "name(int,long)", by the document and by the class. */
    private static void face() throws IOException {
        TreeSet<String> told = new TreeSet<>();
        Matcher m = Pattern.compile("public int (\\w+)\\(([^)]*)\\);").matcher(Files.readString(DOCUMENT));
        while (m.find()) {
            List<String> types = new ArrayList<>();
            for (String parameter : m.group(2).split(",")) {
                if (!parameter.isBlank()) {
                    types.add(parameter.trim().split(" ")[0]);
                }
            }
            told.add(m.group(1) + "(" + String.join(",", types) + ")");
        }
        TreeSet<String> has = new TreeSet<>();
        for (Method method : IceKeys.class.getDeclaredMethods()) {
            if (Modifier.isPublic(method.getModifiers())) {
                List<String> types = new ArrayList<>();
                for (Class<?> type : method.getParameterTypes()) {
                    types.add(type.getName());
                }
                has.add(method.getName() + "(" + String.join(",", types) + ")");
                Check.holds(method + " answers an int, and is not static",
                    method.getReturnType() == int.class && !Modifier.isStatic(method.getModifiers()));
            }
        }
        Check.due("methods of the document", told.size(), 51);
        Check.holds("the face is " + has + ", told is " + told, has.equals(told));
    }

    private static void constants() {
        Check.due("BAD", IceKeys.BAD, -1);
        Check.due("FULL", IceKeys.FULL, -2);
        Check.due("NONE", IceKeys.NONE, -3);
        Check.due("STATE", IceKeys.STATE, -4);
    }

    private static void visibility() {
        Check.holds("public and final", Modifier.isPublic(IceKeys.class.getModifiers())
            && Modifier.isFinal(IceKeys.class.getModifiers()));
        Constructor<?>[] constructors = IceKeys.class.getDeclaredConstructors();
        Check.holds("one public constructor", constructors.length == 1 && Modifier.isPublic(constructors[0].getModifiers())
            && constructors[0].getParameterCount() == 0);
        TreeSet<String> publics = new TreeSet<>();
        for (Method method : IceKeys.class.getDeclaredMethods()) {
            if (Modifier.isPublic(method.getModifiers())) {
                publics.add(method.getName());
            }
        }
        for (Method method : IceKeys.class.getDeclaredMethods()) {
            int is = method.getModifiers();
            Check.holds(method + " is public or private", Modifier.isPublic(is) || Modifier.isPrivate(is));
            Check.holds(method + " bears a name of its own", Modifier.isPublic(is) || !publics.contains(method.getName()));
        }
        for (Field field : IceKeys.class.getDeclaredFields()) {
            boolean constant = Arrays.asList("BAD", "FULL", "NONE", "STATE").contains(field.getName());
            int is = field.getModifiers();
            Check.holds(field + " is seen as it should be", constant ? Modifier.isPublic(is) : Modifier.isPrivate(is));
        }
        for (Class<?> inside : IceKeys.class.getDeclaredClasses()) {
            for (Method method : inside.getDeclaredMethods()) {
                Check.holds(method + " bears a name of its own", !publics.contains(method.getName()));
            }
        }
    }

    private static void nestedClasses() {
        Class<?>[] inside = IceKeys.class.getDeclaredClasses();
        Check.holds("twelve classes at most", inside.length + 1 <= 12);
        List<Class<?>> all = new ArrayList<>(Arrays.asList(inside));
        all.add(IceKeys.class);
        for (Class<?> c : all) {
            Check.holds(c + " is static, or the class itself", c == IceKeys.class || Modifier.isStatic(c.getModifiers()));
            int fields = 0;
            for (Field field : c.getDeclaredFields()) {
                if (Modifier.isStatic(field.getModifiers())) {
                    Check.holds(field + " is final", Modifier.isFinal(field.getModifiers()));
                } else {
                    fields++;
                }
            }
            Check.holds(c + " has twenty fields at most", fields <= 20);
            for (Method method : c.getDeclaredMethods()) {
                Check.holds(method + " takes seven at most", method.getParameterCount() <= 7);
            }
        }
    }

    private static void source() throws IOException {
        String source = Files.readString(SOURCE);
        String code = source.replaceAll("(?s)/\\*.*?\\*/", "").replaceAll("//[^\n]*", "").replaceAll("\"[^\"\n]*\"", "\"\"");
        String[] words = {"throw", "throws", "try", "catch", "finally", "synchronized", "assert", "import", "package",
            "public static void main", "System.out", "Object", "hashCode", "toString", "volatile", "native", "var"};
        for (String word : words) {
            Check.holds("no " + word, !Pattern.compile("\\b" + Pattern.quote(word) + "\\b").matcher(code).find());
        }
        for (String sign : new String[] {"->", "::", "@", "static {"}) {
            Check.holds("no " + sign, !code.contains(sign));
        }
        for (int i = 0; i < source.length(); i++) {
            if (source.charAt(i) > 127) {
                Check.holds("no sign above 127 at " + i, false);
            }
        }
        Matcher method = Pattern.compile("(?m)^( ++)(?!if|for|while|switch|else)[\\w\\[\\]. ]+\\([^;{]*\\) \\{$").matcher(code);
        int methods = 0;
        while (method.find()) {
            int end = code.indexOf("\n" + method.group(1) + "}\n", method.end());
            long lines = code.substring(method.start(), end).lines().count();
            Check.holds(method.group() + " is short (" + lines + ")", lines <= 60);
            methods++;
        }
        Check.holds("methods were found", methods > 100);
    }
}
