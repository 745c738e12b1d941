import java.io.IOException;
import java.lang.reflect.InvocationTargetException;
import java.lang.reflect.Method;
import java.nio.file.Files;
import java.nio.file.Path;
import java.util.HashSet;
import java.util.Set;
import java.util.regex.Matcher;
import java.util.regex.Pattern;

/** README.md against ../shared/DOC.md and the class: its list of calls, and its example line by line. */
public final class ReadmeTests {
    private static final int PROMISES = 25;

    private static int checks = 0;
    private static int wrong = 0;

    public static void main(String[] args) throws IOException {
        String readme = Files.readString(Path.of("README.md"));
        callsAreToldInTheWordsOfTheDocument(readme, Files.readString(Path.of("../shared/DOC.md")));
        exampleAnswersWhatItSays(readme);
        System.out.println("README.md: " + checks + " checks, " + wrong + " wrong");
        if (wrong != 0) {
            System.exit(1);
        }
    }

    private static void due(boolean isSo, String what) {
        checks++;
        if (!isSo) {
            wrong++;
            System.out.println("not so: " + what);
        }
    }

    // ---- the calls

    private static void callsAreToldInTheWordsOfTheDocument(String readme, String doc) {
        int promises = 0;
        for (String section : doc.split("(?m)^## ")) {
            if (section.startsWith("Promise ")) {
                promises++;
                callIsTold(readme, section);
            }
        }
        due(promises == PROMISES, "the document has " + PROMISES + " promises");
    }

    private static void callIsTold(String readme, String section) {
        Matcher head = Pattern.compile("(?m)^`(.*?\\))(?: throws .*?)?`: (.*)$").matcher(section);
        if (!head.find()) {
            due(false, "a promise begins with its call: " + section);
            return;
        }
        String told = bulletOf(readme, head.group(1));
        due(!told.isEmpty(), "README.md tells " + head.group(1));
        due(told.contains(oneLine(head.group(2))), "it tells: " + head.group(2));
        for (String line : section.substring(head.end()).split("\n")) {
            String words = oneLine(line.startsWith("- ") ? line.substring(2) : line);
            due(told.contains(words), head.group(1) + " is told with: " + words);
        }
    }

    /** The bullet that begins with a call, on one line; empty if there is none. */
    private static String bulletOf(String readme, String call) {
        int start = readme.indexOf("\n- `" + call + "`: ");
        if (start < 0) {
            return "";
        }
        Matcher end = Pattern.compile("\n(?!  )").matcher(readme);
        return oneLine(readme.substring(start, end.find(start + 1) ? end.start() : readme.length()));
    }

    private static String oneLine(String text) {
        return text.strip().replaceAll("\\s+", " ");
    }

    // ---- the example

    private static void exampleAnswersWhatItSays(String readme) {
        int start = readme.indexOf("```java\n");
        int end = readme.indexOf("```", start + 3);
        due(start >= 0 && end > start, "README.md has an example");
        if (start < 0 || end < start) {
            return;
        }
        Set<String> shown = new HashSet<>();
        ChartroomSpc desk = null;
        for (String line : readme.substring(start + 8, end).split("\n")) {
            if (line.startsWith("ChartroomSpc desk = new ChartroomSpc();")) {
                desk = new ChartroomSpc();
            } else {
                lineAnswersWhatItSays(desk, line, shown);
            }
        }
        for (Method method : ChartroomSpc.class.getMethods()) {
            boolean isOfFace = method.getDeclaringClass() == ChartroomSpc.class;
            due(!isOfFace || shown.contains(method.getName()), "the example shows " + method.getName());
        }
    }

    private static void lineAnswersWhatItSays(ChartroomSpc desk, String line, Set<String> shown) {
        Matcher parts = Pattern.compile("desk\\.(\\w+)\\((.*?)\\); +// (.*)").matcher(line);
        boolean isCall = desk != null && parts.matches();
        due(isCall, "a line of the example is a call with its answer: " + line);
        if (!isCall) {
            return;
        }
        shown.add(parts.group(1));
        String answer = answerOf(desk, parts.group(1), parts.group(2));
        String said = parts.group(3);
        due(said.equals(answer) || said.startsWith(answer + ":") || said.startsWith(answer + ",") || answer.isEmpty(),
                line + " answered " + answer);
    }

    /** What a call answers; empty if it answers nothing. */
    private static String answerOf(ChartroomSpc desk, String name, String written) {
        String[] words = written.isEmpty() ? new String[0] : written.split(", ");
        Object[] values = new Object[words.length];
        Class<?>[] types = new Class<?>[words.length];
        for (int i = 0; i < words.length; i++) {
            boolean isFlag = words[i].equals("true") || words[i].equals("false");
            types[i] = isFlag ? boolean.class : int.class;
            values[i] = isFlag ? (Object) Boolean.valueOf(words[i]) : (Object) Integer.valueOf(words[i]);
        }
        try {
            Object answer = ChartroomSpc.class.getMethod(name, types).invoke(desk, values);
            return answer == null ? "" : answer.toString();
        } catch (InvocationTargetException e) {
            return "throws " + e.getCause().getClass().getSimpleName();
        } catch (NoSuchMethodException | IllegalAccessException | IllegalArgumentException e) {
            return "no call: " + e;
        }
    }
}
