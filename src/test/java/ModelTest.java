import java.lang.reflect.InvocationTargetException;
import java.lang.reflect.Method;
import java.lang.reflect.Modifier;
import java.util.ArrayList;
import java.util.Arrays;
import java.util.HashMap;
import java.util.List;
import java.util.Map;
import java.util.Random;

/** Holds the class against the plain model in long runs of calls by a fixed draw. */
public final class ModelTest {
    private static final List<String> DEAR = List.of("places", "ask", "fits", "sure", "when", "poor", "next", "first",
            "dam", "quiet", "gable");
    private static final List<String> ACTS = List.of("hour", "shout", "move", "build", "hush", "let", "wall", "shovel",
            "undo", "redo", "hour", "hour", "shout", "wall");
    private static final Map<String, Integer> ANSWERED = new HashMap<>();
    private static int wrong;

    private final Random random;
    private final Texts texts;
    private final AvalancheInn inn = new AvalancheInn();
    private final PlainModel model = new PlainModel();
    private final List<String> log = new ArrayList<>();
    private final List<Method> face;
    private final Map<Method, Method> twin = new HashMap<>();
    private int calls;

    private ModelTest(long seed) throws NoSuchMethodException {
        random = new Random(seed);
        texts = new Texts(random);
        face = new ArrayList<>();
        for (Method method : AvalancheInn.class.getDeclaredMethods()) {
            if (Modifier.isPublic(method.getModifiers())) {
                face.add(method);
                Method other = PlainModel.class.getDeclaredMethod(method.getName(), method.getParameterTypes());
                twin.put(method, other);
            }
        }
        face.sort((a, b) -> a.getName().compareTo(b.getName()));
    }

    public static void main(String[] args) throws Exception {
        int runs = args.length > 0 ? Integer.parseInt(args[0]) : 260;
        long first = args.length > 1 ? Long.parseLong(args[1]) : 1;
        for (int i = 0; i < runs && wrong < 5; i++) {
            ModelTest test = new ModelTest(first + i);
            test.run(i % 4 != 0);
        }
        if (ANSWERED.size() != 52 - 1) {
            wrong++;
            System.out.println("only " + ANSWERED.size() + " methods were called");
        }
        for (Map.Entry<String, Integer> entry : ANSWERED.entrySet()) {
            if (entry.getValue() == 0) {
                wrong++;
                System.out.println(entry.getKey() + " never answered but that there is none");
            }
        }
        System.out.println(wrong == 0 ? "the model agrees" : wrong + " answers are not the model's");
        if (wrong != 0) {
            System.exit(1);
        }
    }

    private void run(boolean small) throws Exception {
        while (calls < 500 && wrong == 0) {
            tell(someText(small));
            int turns = random.nextInt(220);
            for (int i = 0; i < turns && calls < 500; i++) {
                turn();
            }
        }
    }

    private String someText(boolean small) {
        return switch (random.nextInt(8)) {
            case 0, 1 -> texts.wrong();
            case 2 -> random.nextInt(2) == 0 ? texts.soup() : texts.right(small);
            case 3, 4 -> texts.right(small);
            default -> texts.lively();
        };
    }

    private void tell(String text) throws Exception {
        log.add("text: " + text);
        for (int i = 0; i < text.length(); i += 20) {
            int[] n = Texts.numbers(text, i);
            both("feed", n[0], n[1], n[2], n[3], n[4]);
        }
        both("end", text.length());
        both("pass");
        both("fault", 0);
        both("fault", 1);
        if (model.faultKind != 0) {
            both("end", 0);
        }
        both("about", 14);
    }

    private void turn() throws Exception {
        String name;
        if (random.nextInt(3) == 0) {
            name = ACTS.get(random.nextInt(ACTS.size()));
        } else {
            name = face.get(random.nextInt(face.size())).getName();
        }
        boolean dear = DEAR.contains(name);
        boolean tape = name.equals("feed") || name.equals("end") || name.equals("pass");
        if (dear && random.nextInt(4) != 0 || tape && random.nextInt(30) != 0) {
            return;
        }
        if (name.equals("places") && Math.pow(model.told.lanes, model.told.rooms.size()) > 300
                && random.nextInt(60) != 0) {
            return;
        }
        for (Method method : face) {
            if (method.getName().equals(name)) {
                Object[] args = new Object[method.getParameterCount()];
                for (int i = 0; i < args.length; i++) {
                    args[i] = method.getParameterTypes()[i] == boolean.class ? random.nextInt(2) == 0 : number(name, i);
                }
                both(method, args);
            }
        }
        if (name.equals("places") || name.equals("duel")) {
            for (int i = -1; i < 6; i++) {
                both("lies", i);
            }
        }
    }

    private int number(String name, int place) {
        int[] odd = {-1, -2, Integer.MAX_VALUE, Integer.MIN_VALUE, 7, 24, 25, 60, 61, 99, 100, 31, 47, 48, 1000, 1001};
        if (random.nextInt(25) == 0) {
            return odd[random.nextInt(odd.length)];
        }
        boolean hours = List.of("will", "left", "purse", "gable", "places", "quiet", "dam", "dig").contains(name)
                && place == 0 || name.equals("brunt") && place == 1 || name.equals("depth") && place == 2
                || name.equals("seen") && place == 0;
        if (hours) {
            boolean far = List.of("will", "left", "purse", "gable", "brunt", "depth").contains(name);
            return random.nextInt(far ? 62 : random.nextInt(3) == 0 ? 26 : 8);
        }
        if (name.equals("shout") && place == 1) {
            return random.nextInt(101);
        }
        if (name.equals("about")) {
            return random.nextInt(19);
        }
        if (name.equals("awake")) {
            return random.nextInt(49);
        }
        if (name.equals("law")) {
            return random.nextInt(10);
        }
        if ((name.equals("fits") || name.equals("sure") || name.equals("ask")) && random.nextInt(2) == 0) {
            return model.time + random.nextInt(3) - 1;
        }
        return random.nextInt(random.nextInt(3) == 0 ? 7 : 4);
    }

    private void both(String name, Object... args) throws Exception {
        for (Method method : face) {
            if (method.getName().equals(name)) {
                both(method, args);
            }
        }
    }

    private void both(Method method, Object... args) throws Exception {
        String call = method.getName() + Arrays.toString(args);
        Object got;
        try {
            got = method.invoke(inn, args);
        } catch (InvocationTargetException e) {
            got = e.getCause().toString();
        }
        Object due = twin.get(method).invoke(model, args);
        calls++;
        log.add(call + " = " + got);
        boolean told = !due.equals(-1) && !due.equals(-2) && !due.equals(false);
        ANSWERED.merge(method.getName(), told ? 1 : 0, Integer::sum);
        if (!got.equals(due)) {
            wrong++;
            System.out.println(String.join("\n", log));
            System.out.println(call + " answered " + got + ", the model " + due);
            throw new IllegalStateException("the model does not agree");
        }
    }
}
