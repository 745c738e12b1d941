import java.io.IOException;
import java.lang.reflect.Constructor;
import java.lang.reflect.Executable;
import java.lang.reflect.Field;
import java.lang.reflect.Method;
import java.lang.reflect.Modifier;
import java.nio.file.Files;
import java.nio.file.Path;
import java.util.ArrayList;
import java.util.Arrays;
import java.util.HashSet;
import java.util.List;
import java.util.Set;
import java.util.TreeSet;
import java.util.regex.Matcher;
import java.util.regex.Pattern;

/** The public face word by word against ../shared/DOC.md, and some rules of ../shared/LANGUAGE.md. */
public final class FaceTests {
    private static final Path DOC = Path.of("../shared/DOC.md");
    private static final Path SOURCE = Path.of("src/main/java/ChartroomSpc.java");

    private static int wrong = 0;

    public static void main(String[] args) throws IOException {
        faceIsThatOfTheDocument();
        classesInsideAreHidden();
        staticFieldsAreConstants();
        sourceKeepsToTheLanguage();
        System.out.println("the face and the language, " + wrong + " wrong");
        if (wrong != 0) {
            System.exit(1);
        }
    }

    private static void due(boolean isSo, String what) {
        if (!isSo) {
            wrong++;
            System.out.println("not so: " + what);
        }
    }

    private static void faceIsThatOfTheDocument() throws IOException {
        Set<String> want = new TreeSet<>();
        String doc = Files.readString(DOC);
        int start = doc.indexOf("public final class ChartroomSpc {");
        for (String line : doc.substring(start, doc.indexOf("\n}", start)).split("\n")) {
            if (line.startsWith("    public ")) {
                want.add(line.strip().replaceAll("\\b(int|boolean) \\w+(?=[,)])", "$1").replace(";", ""));
            }
        }
        due(want.size() == 26, "the document's face has a constant, a constructor and 24 methods");
        Set<String> got = new TreeSet<>();
        Class<?> face = ChartroomSpc.class;
        due(Modifier.isPublic(face.getModifiers()) && Modifier.isFinal(face.getModifiers()), "public final class");
        Set<String> publicNames = new HashSet<>();
        for (Field field : face.getDeclaredFields()) {
            if (!Modifier.isPrivate(field.getModifiers())) {
                got.add("public static final " + field.getType() + " " + field.getName() + " = " + ChartroomSpc.NONE);
                due(field.getModifiers() == (Modifier.PUBLIC | Modifier.STATIC | Modifier.FINAL), field + " is public");
            }
        }
        for (Constructor<?> constructor : face.getDeclaredConstructors()) {
            got.add("public ChartroomSpc" + tail(constructor));
            due(Modifier.isPublic(constructor.getModifiers()), constructor + " is public");
        }
        for (Method method : face.getDeclaredMethods()) {
            if (!Modifier.isPrivate(method.getModifiers())) {
                got.add("public " + method.getReturnType() + " " + method.getName() + tail(method));
                due(method.getModifiers() == Modifier.PUBLIC, method + " is public");
                due(publicNames.add(method.getName()), method + " is there once");
            }
        }
        for (Method method : face.getDeclaredMethods()) {
            due(!Modifier.isPrivate(method.getModifiers()) || !publicNames.contains(method.getName()),
                    method + " bears no public name");
        }
        due(got.equals(want), "the face is that of the document:\n" + got + "\n" + want);
    }

    private static String tail(Executable executable) {
        List<String> types = new ArrayList<>();
        for (Class<?> type : executable.getParameterTypes()) {
            types.add(type.getName());
        }
        List<String> thrown = new ArrayList<>();
        for (Class<?> type : executable.getExceptionTypes()) {
            thrown.add(type.getSimpleName());
        }
        return "(" + String.join(", ", types) + ")" + (thrown.isEmpty() ? "" : " throws " + String.join(", ", thrown));
    }

    private static void classesInsideAreHidden() {
        Class<?>[] inside = ChartroomSpc.class.getDeclaredClasses();
        due(inside.length <= 11, "at most some twelve classes");
        for (Class<?> one : inside) {
            due(Modifier.isStatic(one.getModifiers()), one + " is static");
            due(!Modifier.isPublic(one.getModifiers()) && !Modifier.isProtected(one.getModifiers()), one + " is hidden");
        }
    }

    private static void staticFieldsAreConstants() {
        List<Class<?>> all = new ArrayList<>(Arrays.asList(ChartroomSpc.class.getDeclaredClasses()));
        all.add(ChartroomSpc.class);
        for (Class<?> one : all) {
            int fields = 0;
            for (Field field : one.getDeclaredFields()) {
                boolean isStatic = Modifier.isStatic(field.getModifiers());
                due(!isStatic || Modifier.isFinal(field.getModifiers()), field + " is final");
                fields += isStatic ? 0 : 1;
            }
            due(fields <= 20, one + " has at most some twenty fields");
        }
    }

    private static void sourceKeepsToTheLanguage() throws IOException {
        String source = Files.readString(SOURCE);
        due(source.chars().allMatch(c -> c < 128), "the source is plain ASCII");
        String code = source.replaceAll("(?s)/\\*.*?\\*/", "").replaceAll("//[^\n]*", "");
        for (String word : new String[] {"import", "package", "try", "catch", "finally", "synchronized", "assert",
            "float", "double", "->", "::", "System", "Object", "hashCode", "toString", "Exact"}) {
            due(!Pattern.compile("(?<!\\w)" + Pattern.quote(word) + "(?!\\w)").matcher(code).find(),
                    "the source is free of " + word);
        }
        Matcher math = Pattern.compile("(?:Math|Integer|Long)\\.(\\w+)").matcher(code);
        Set<String> known = Set.of("floorDiv", "floorMod", "max", "min", "abs", "bitCount", "compare");
        while (math.find()) {
            due(known.contains(math.group(1)), math.group() + " stands in the language");
        }
        int division = code.replaceAll("\"[^\"]*\"", "").indexOf('/');
        due(division < 0, "every division goes by floorDiv");
    }
}
