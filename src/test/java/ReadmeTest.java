import java.lang.reflect.Method;
import java.nio.file.Files;
import java.nio.file.Path;
import java.util.Arrays;
import java.util.List;
import java.util.regex.Matcher;
import java.util.regex.Pattern;
import java.util.stream.Collectors;

/** What README.md shows of the class: each call of its example answers what is written behind it; each method is named. */
public final class ReadmeTest {
    private static final Pattern CALL = Pattern.compile("board\\.(\\w+)\\(([^)]*)\\); +// (\"[^\"]*\"|[-\\w]+): .*");
    private static final Check CHECK = new Check("ReadmeTest");

    public static void main(String[] args) throws Exception {
        String text = Files.readString(Path.of("README.md"));
        String example = text.substring(text.indexOf("```java\n") + 8);
        List<String> lines = example.substring(0, example.indexOf("```")).lines().collect(Collectors.toList());
        CHECK.same("the first line", lines.get(0), "Exactdoubles board = new Exactdoubles();");
        Exactdoubles board = new Exactdoubles();
        for (String line : lines.subList(1, lines.size())) {
            Matcher call = CALL.matcher(line);
            boolean isCall = call.matches();
            CHECK.isTrue("a call and its answer: " + line, isCall);
            if (isCall) {
                CHECK.same(line, told(answer(board, call.group(1), call.group(2).split(", *"))), call.group(3));
            }
        }
        for (Method method : Exactdoubles.class.getMethods()) {
            if (method.getDeclaringClass() == Exactdoubles.class) {
                CHECK.isTrue("it names " + method.getName(), text.contains("`" + method.getName() + "`"));
            }
        }
        CHECK.finish();
    }

    private static Object answer(Exactdoubles board, String name, String[] written) throws Exception {
        Object[] arguments = Arrays.stream(written).map(ReadmeTest::argument).toArray();
        for (Method method : Exactdoubles.class.getMethods()) {
            if (method.getName().equals(name)) {
                return method.invoke(board, arguments);
            }
        }
        return "no such method";
    }

    private static Object argument(String written) {
        if (written.equals("true") || written.equals("false")) {
            return Boolean.valueOf(written);
        }
        return Integer.decode(written);
    }

    private static String told(Object answer) {
        return answer instanceof String ? "\"" + answer + "\"" : String.valueOf(answer);
    }
}
