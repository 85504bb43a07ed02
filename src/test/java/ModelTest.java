import java.lang.reflect.InvocationTargetException;
import java.lang.reflect.Method;
import java.lang.reflect.Modifier;
import java.util.ArrayList;
import java.util.Arrays;
import java.util.HashMap;
import java.util.List;
import java.util.Map;
import java.util.TreeSet;

/** All promises: random runs are acted out by a hall and by a Model, and each answer must be the same. */
public final class ModelTest {
    private static final int RUNS = 320;
    private static final int CALLS = 140;

    // How often it is called, its name, and what its arguments are taken from.
    private static final String[] CHANGES = {
        "1 addRack 0..2 10..60", "2 addMachine rack 1..16 1..9", "2 setCooling 0..2 0..300", "1 setCooling 0..2 0..40",
        "1 setBattery 0..1 0..2000", "3 setBattery 0..1 0..90", "4 setMains 0..1 0..1", "1 setQuota 0..3 0..400",
        "2 setQuota 0..3 0..30", "5 submit 0..3 1..6 1..8 1..40 -1..9", "3 submit 0..3 1..3 1..8 1..12 -1..1",
        "2 store 1..3 1..9", "2 store 2..3 1..4", "2 cancel job", "3 drain machine 0..1", "4 turnOff machine",
        "5 turnOn machine", "5 pull machine 0..1 0..1", "2 fail machine", "4 repair machine", "6 resetBreaker rack 0..1",
        "1 setCrew 0..5 0..50", "1 pass 1..24", "14 pass 1..3"};

    private static final String[] QUESTIONS = {
        "hour", "stateOf machine", "load machine", "stored machine", "heat 0..2", "draw rack 0..1", "hasTripped rack 0..1",
        "charge 0..1", "jobState job", "machineOf job 0..5", "left job", "used 0..3", "copies volume", "isLost volume",
        "alarms", "alarm alarm", "alarmOf alarm", "causeOf alarm", "isSafe", "bill 0..3", "tickets", "fullness", "meanHeat",
        "isSound"};

    private static final Check check = new Check();
    private static final Map<String, Method> ofHall = methodsOf(CloudHall.class);
    private static final Map<String, Method> ofModel = methodsOf(Model.class);
    private static final TreeSet<String> met = new TreeSet<>();
    private static final List<String> told = new ArrayList<>();
    private static int differences = 0;

    public static void main(String[] args) throws Exception {
        List<String> often = new ArrayList<>();
        for (String line : CHANGES) {
            int space = line.indexOf(' ');
            for (int i = 0; i < Integer.parseInt(line.substring(0, space)); i++) {
                often.add(line.substring(space + 1));
            }
        }
        for (int run = 0; run < RUNS && differences == 0; run++) {
            actOut(run, often);
        }
        check.is("runs in which an answer differs", differences, 0);
        check.is("what calls were met with", met, allThatTheFaceNames());
        check.end();
    }

    /** A number for a boolean is 1 for true, since all arguments are drawn as numbers. */
    private static void actOut(int run, List<String> often) throws Exception {
        RandomRunsTest.startAt(run);
        told.clear();
        CloudHall hall = new CloudHall();
        Model model = new Model();
        furnish(run, hall, model);
        for (int i = 0; i < CALLS && differences == 0; i++) {
            String[] words = often.get(RandomRunsTest.any(often.size())).split(" ");
            int[] arguments = new int[words.length - 1];
            for (int j = 0; j < arguments.length; j++) {
                arguments[j] = anyOf(words[j + 1], model);
            }
            ask(hall, model, words[0], arguments);
            if (i % 4 == 0) {
                askAll(hall, model);
            }
        }
    }

    /** Breakers that trip often in one run of three; some runs begin next to a bound that random calls seldom meet. */
    private static void furnish(int run, CloudHall hall, Model model) throws Exception {
        askAll(hall, model);
        int breaker = run % 3 == 0 ? 14 : 10 + RandomRunsTest.any(90);
        for (int rack = 0; rack < run % 9; rack++) {
            ask(hall, model, "addRack", rack % 3, breaker);
            for (int i = 0; i < 1 + run % 4; i++) {
                ask(hall, model, "addMachine", rack, 8, 1 + RandomRunsTest.any(3));
            }
        }
        repeat(run % 40 == 1 ? 83 : 0, hall, model, "pass", 24);
        repeat(run % 40 == 2 ? 38 : 0, hall, model, "submit", 0, 1, 1, 1, -1);
        repeat(run % 40 == 3 ? 19 : 0, hall, model, "store", 1, 1);
    }

    private static void repeat(int times, CloudHall hall, Model model, String name, int... arguments) throws Exception {
        for (int i = 0; i < times; i++) {
            ask(hall, model, name, arguments);
        }
    }

    private static int least(String range) {
        return range.contains("..") ? Integer.parseInt(range.split("\\.\\.")[0]) : 0;
    }

    private static int most(String range, Model model) {
        return range.contains("..") ? Integer.parseInt(range.split("\\.\\.")[1]) : model.count(range) - 1;
    }

    /** One argument in thirty is out of its range. */
    private static int anyOf(String range, Model model) {
        int least = least(range);
        int most = Math.max(least, most(range, model));
        if (RandomRunsTest.any(30) == 0) {
            return RandomRunsTest.any(2) == 0 ? least - 1 : most + 1;
        }
        return least + RandomRunsTest.any(most - least + 1);
    }

    /** Each question with all arguments that are right, and one too small and one too great. */
    private static void askAll(CloudHall hall, Model model) throws Exception {
        for (String question : QUESTIONS) {
            String[] words = question.split(" ");
            if (words.length == 1) {
                ask(hall, model, words[0]);
            }
            for (int i = -1; words.length > 1 && i <= most(words[1], model) + 1; i++) {
                if (words.length == 2) {
                    ask(hall, model, words[0], i);
                }
                for (int j = -1; words.length == 3 && j <= most(words[2], model) + 1; j++) {
                    ask(hall, model, words[0], i, j);
                }
            }
        }
    }

    private static void ask(CloudHall hall, Model model, String name, int... arguments) throws Exception {
        Object got = answer(ofHall.get(name), hall, arguments);
        Object want = answer(ofModel.get(name), model, arguments);
        met.add(name + " " + (got instanceof Class<?> ? ((Class<?>) got).getSimpleName() : "answers"));
        told.add(name + Arrays.toString(arguments) + " " + got);
        if (!got.equals(want)) {
            differences++;
            System.out.println(String.join("\n", told) + "\nthe last one is " + want + " by the model");
        }
    }

    /** What it returns, or the class of the exception that it throws. */
    private static Object answer(Method method, Object asked, int[] arguments) throws IllegalAccessException {
        Object[] boxed = new Object[arguments.length];
        for (int i = 0; i < boxed.length; i++) {
            boolean isBoolean = method.getParameterTypes()[i] == boolean.class;
            boxed[i] = isBoolean ? (Object) (arguments[i] == 1) : (Object) arguments[i];
        }
        try {
            return method.invoke(asked, boxed);
        } catch (InvocationTargetException e) {
            return e.getCause().getClass();
        }
    }

    private static Map<String, Method> methodsOf(Class<?> type) {
        Map<String, Method> all = new HashMap<>();
        for (Method method : type.getDeclaredMethods()) {
            all.put(method.getName(), method);
        }
        return all;
    }

    private static TreeSet<String> allThatTheFaceNames() {
        TreeSet<String> all = new TreeSet<>();
        for (String name : ofHall.keySet()) {
            if (Modifier.isPublic(ofHall.get(name).getModifiers())) {
                all.add(name + " answers");
                for (Class<?> thrown : ofHall.get(name).getExceptionTypes()) {
                    all.add(name + " " + thrown.getSimpleName());
                }
            }
        }
        return all;
    }
}
