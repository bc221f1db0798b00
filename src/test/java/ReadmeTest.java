import java.io.IOException;
import java.lang.reflect.Method;
import java.lang.reflect.Modifier;
import java.nio.file.Files;
import java.nio.file.Path;
import java.util.ArrayList;
import java.util.Arrays;
import java.util.List;
import java.util.Set;
import java.util.TreeSet;
import java.util.regex.Matcher;
import java.util.regex.Pattern;

/**
 * README.md tells each call of the face and shows it in an example, and its examples' answers are those of the program
 * and of the model of the document. An example is a block of java: a line that makes x, then a call of x in each line,
 * with the answer first in its comment.
 */
public final class ReadmeTest {
    private static final Path README = Path.of("README.md");
    private static final Pattern MAKING = Pattern.compile("RebornDrivers x = new RebornDrivers\\((-?\\d+)\\);.*");
    private static final Pattern CALL = Pattern.compile("x\\.(\\w+)\\(([-\\d, ]*)\\); +// (true|false|-?\\d+)(: .+)?");

    public static void main(String[] args) throws IOException, ReflectiveOperationException {
        Due due = new Due();
        String text = Files.readString(README);
        List<List<String>> examples = examples(text);
        Set<String> shown = new TreeSet<>();
        for (List<String> example : examples) {
            check(due, example, shown);
        }
        for (Method method : RebornDrivers.class.getDeclaredMethods()) {
            if (Modifier.isPublic(method.getModifiers())) {
                due.taken(method.getName() + " is shown in an example", shown.contains(method.getName()));
                String head = "`" + method.getReturnType() + " " + method.getName() + "(";
                due.taken(head + " is told", text.contains(head));
            }
        }
        due.taken("`RebornDrivers(int h)` is told", text.contains("`RebornDrivers(int h)`"));
        due.end();
    }

    private static List<List<String>> examples(String text) {
        List<List<String>> examples = new ArrayList<>();
        boolean inside = false;
        for (String line : text.split("\n")) {
            if (line.equals("```java")) {
                examples.add(new ArrayList<>());
                inside = true;
            } else if (line.startsWith("```")) {
                inside = false;
            } else if (inside) {
                examples.get(examples.size() - 1).add(line);
            }
        }
        return examples;
    }

    private static void check(Due due, List<String> example, Set<String> shown) throws ReflectiveOperationException {
        Matcher making = MAKING.matcher(example.get(0));
        due.taken(example.get(0) + " makes x", making.matches());
        int h = Integer.parseInt(making.group(1));
        RebornDrivers x = new RebornDrivers(h);
        Model y = new Model(h);
        for (String line : example.subList(1, example.size())) {
            Matcher call = CALL.matcher(line);
            boolean isCall = call.matches();
            due.taken(line + " is a call with its answer", isCall);
            if (isCall) {
                due.taken(line + " is so of the program", answer(x, call).equals(call.group(3)));
                due.taken(line + " is so of the model", answer(y, call).equals(call.group(3)));
                shown.add(call.group(1));
            }
        }
    }

    private static String answer(Object asked, Matcher call) throws ReflectiveOperationException {
        Object[] arguments = call.group(2).isEmpty() ? new Object[0]
                : Arrays.stream(call.group(2).split(", ")).map(Integer::valueOf).toArray();
        Class<?>[] types = new Class<?>[arguments.length];
        Arrays.fill(types, int.class);
        return String.valueOf(asked.getClass().getDeclaredMethod(call.group(1), types).invoke(asked, arguments));
    }
}
