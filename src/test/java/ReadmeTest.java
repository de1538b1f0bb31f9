import java.io.IOException;
import java.lang.reflect.InvocationTargetException;
import java.lang.reflect.Method;
import java.lang.reflect.Modifier;
import java.nio.file.Files;
import java.nio.file.Path;
import java.util.ArrayList;
import java.util.List;
import java.util.NoSuchElementException;
import java.util.TreeSet;
import java.util.regex.Matcher;
import java.util.regex.Pattern;

/** README.md: the run that it tells answers as it is told there, and it names every call of the face. */
public final class ReadmeTest {
    private static final Pattern CALL = Pattern.compile("(\\w+)\\(([-0-9, ]*)\\) (= (\\S+)|throws).*");
    private static final int CALLS_OF_THE_RUN = 23;

    public static void main(String[] args) throws IOException, ReflectiveOperationException {
        String readme = Files.readString(Path.of("README.md"));
        ClogVotes x = new ClogVotes();
        int calls = 0;
        for (String line : linesOfTheRun(readme)) {
            if (line.startsWith("tell ")) {
                Check.tell(x, line.substring("tell ".length()));
                continue;
            }
            Matcher told = CALL.matcher(line);
            Check.yes("a call is told by: " + line, told.matches());
            String due = told.group(4) == null ? "throws" : told.group(4);
            Check.sameText(line, answer(x, told.group(1), told.group(2)), due);
            calls++;
        }
        Check.same("calls of the run", calls, CALLS_OF_THE_RUN);
        namesEveryCall(readme);
        Check.yes("it tells how to run the tests", readme.contains("\n.ci/run\n"));
        Check.finish("ReadmeTest");
    }

    private static List<String> linesOfTheRun(String readme) {
        List<String> lines = new ArrayList<>();
        int start = readme.indexOf("```text\n");
        int end = readme.indexOf("\n```\n", start);
        Check.yes("a run is told", start >= 0 && end > start);
        for (String line : readme.substring(start, end).split("\n")) {
            if (!line.startsWith("```")) {
                lines.add(line);
            }
        }
        return lines;
    }

    private static String answer(ClogVotes x, String name, String numbers) throws ReflectiveOperationException {
        String[] parts = numbers.isEmpty() ? new String[0] : numbers.split(", ");
        Object[] given = new Object[parts.length];
        for (int i = 0; i < parts.length; i++) {
            given[i] = Integer.valueOf(parts[i]);
        }
        for (Method method : ClogVotes.class.getMethods()) {
            if (method.getName().equals(name) && method.getParameterCount() == given.length) {
                try {
                    return method.invoke(x, given).toString();
                } catch (InvocationTargetException e) {
                    return e.getCause() instanceof NoSuchElementException ? "throws" : e.getCause().toString();
                }
            }
        }
        return "no such call";
    }

    private static void namesEveryCall(String readme) {
        String table = readme.substring(readme.indexOf("| what for | calls |"));
        TreeSet<String> missing = new TreeSet<>();
        for (Method method : ClogVotes.class.getDeclaredMethods()) {
            boolean face = Modifier.isPublic(method.getModifiers());
            if (face && !Pattern.compile("`" + method.getName() + "[`(]").matcher(table).find()) {
                missing.add(method.getName());
            }
        }
        Check.sameText("calls that the table does not name", missing.toString(), "[]");
    }
}
