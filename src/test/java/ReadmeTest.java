import java.lang.reflect.Method;
import java.lang.reflect.Modifier;
import java.nio.charset.StandardCharsets;
import java.nio.file.Files;
import java.nio.file.Path;
import java.util.regex.Matcher;
import java.util.regex.Pattern;

/** Makes the calls that README.md shows, with the answers that it tells; it runs at the project's root. */
public final class ReadmeTest {
    private static final Pattern BLOCK = Pattern.compile("```text\n(.*?)```", Pattern.DOTALL);
    private static final Pattern CALL = Pattern.compile("^inn\\.([a-z]+)\\((.*)\\); *// (\\S+)", Pattern.MULTILINE);
    private static int wrong;

    public static void main(String[] args) throws Exception {
        String page = Files.readString(Path.of("README.md"), StandardCharsets.UTF_8);
        Matcher block = BLOCK.matcher(page);
        AvalancheInn inn = new AvalancheInn();
        if (!block.find() || Texts.tell(inn, block.group(1)) != 2) {
            refuse("the text is not a pass of two rooms: fault " + inn.fault(0) + " at " + inn.fault(1));
        }
        Matcher call = CALL.matcher(page);
        int calls = 0;
        while (call.find()) {
            calls++;
            String got = String.valueOf(answer(inn, call.group(1), call.group(2)));
            if (!got.equals(call.group(3))) {
                refuse(call.group() + ": it answered " + got);
            }
        }
        if (calls < 20) {
            refuse("only " + calls + " calls are shown");
        }
        namesAll(page);
        System.out.println(calls + " calls of README.md made, " + wrong + " things not as it says");
        if (wrong != 0) {
            System.exit(1);
        }
    }

    private static void refuse(String why) {
        wrong++;
        System.out.println(why);
    }

    private static Object answer(AvalancheInn inn, String name, String given) throws Exception {
        String[] words = given.isEmpty() ? new String[0] : given.split(", *");
        for (Method method : AvalancheInn.class.getMethods()) {
            if (method.getName().equals(name) && method.getParameterCount() == words.length) {
                Object[] values = new Object[words.length];
                for (int i = 0; i < words.length; i++) {
                    boolean truth = method.getParameterTypes()[i] == boolean.class;
                    values[i] = truth ? (Object) Boolean.valueOf(words[i]) : (Object) Integer.valueOf(words[i]);
                }
                return method.invoke(inn, values);
            }
        }
        return "no such method";
    }

    private static void namesAll(String page) {
        for (Method method : AvalancheInn.class.getDeclaredMethods()) {
            if (Modifier.isPublic(method.getModifiers()) && !page.contains("`" + method.getName() + "`")) {
                refuse(method.getName() + " is not named");
            }
        }
    }
}
