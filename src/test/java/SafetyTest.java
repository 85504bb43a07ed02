import java.lang.reflect.Field;
import java.util.List;

/** Promise 38: each single fault is done on a hall of its own, made by the same calls, and must bear out isSafe. */
public final class SafetyTest {
    private static final Check check = new Check();

    public static void main(String[] args) throws Exception {
        int wrong = 0;
        int safe = 0;
        int unsafe = 0;
        for (int run = 0; run < 160; run++) {
            for (int calls = 10; calls <= 130; calls += 30) {
                boolean isSafe = made(run, calls).isSafe();
                boolean isDue = !wouldLose(run, calls) && !wouldStop(run, calls);
                wrong += isSafe == isDue ? 0 : 1;
                safe += isDue ? 1 : 0;
                unsafe += isDue ? 0 : 1;
            }
        }
        check.is("38 halls whose isSafe a fault did not bear out", wrong, 0);
        check.is("38 safe ones and others, many of both", safe > 150 && unsafe > 150, true);
        check.end();
    }

    /** Volumes in one run of four, so that faults of power decide in the others. */
    private static CloudHall made(int run, int calls) {
        RandomRunsTest.startAt(run);
        CloudHall hall = RandomRunsTest.startOf(run);
        for (int i = 0; i < calls; i++) {
            int kind = RandomRunsTest.any(37);
            if (run % 4 == 0 || kind != 13 && kind != 14) {
                RandomRunsTest.callAny(hall, kind);
            }
        }
        return hall;
    }

    private static boolean wouldLose(int run, int calls) {
        int before = countLost(made(run, calls));
        for (int machine = 0; machine < Check.states(made(run, calls)).length(); machine++) {
            CloudHall hall = made(run, calls);
            if (hall.stateOf(machine) != 'f') {
                hall.fail(machine);
                if (countLost(hall) > before) {
                    return true;
                }
            }
        }
        return false;
    }

    private static boolean wouldStop(int run, int calls) throws Exception {
        int before = countRunning(made(run, calls));
        for (int feed = 0; feed < 2; feed++) {
            CloudHall dark = made(run, calls);
            dark.setMains(feed, false);
            if (countRunning(dark) < before) {
                return true;
            }
            for (int rack = 0; rack < partsOf(made(run, calls), "racks").size(); rack++) {
                CloudHall hall = made(run, calls);
                trip(hall, rack, feed);
                if (countRunning(hall) < before) {
                    return true;
                }
            }
        }
        return false;
    }

    /** No call trips a breaker, so it is set from outside; then power is looked at behind a call. */
    private static void trip(CloudHall hall, int rack, int feed) throws Exception {
        Object tripped = partsOf(hall, "racks").get(rack);
        ((boolean[]) fieldOf(tripped, "isTripped").get(tripped))[feed] = true;
        Object first = ((Object[]) fieldOf(hall, "feeds").get(hall))[0];
        hall.setMains(0, fieldOf(first, "hasMains").getBoolean(first));
        check.is("26 set from outside", hall.hasTripped(rack, feed), true);
    }

    private static Field fieldOf(Object part, String name) throws Exception {
        Field field = part.getClass().getDeclaredField(name);
        field.setAccessible(true);
        return field;
    }

    private static List<?> partsOf(CloudHall hall, String name) throws Exception {
        return (List<?>) fieldOf(hall, name).get(hall);
    }

    private static int countLost(CloudHall hall) {
        int count = 0;
        for (int i = 0; i < 20; i++) {
            try {
                count += hall.isLost(i) ? 1 : 0;
            } catch (IndexOutOfBoundsException e) {
                return count;
            }
        }
        return count;
    }

    private static int countRunning(CloudHall hall) {
        int count = 0;
        for (int i = 0; i < 40; i++) {
            try {
                count += hall.jobState(i) == 'r' ? 1 : 0;
            } catch (IndexOutOfBoundsException e) {
                return count;
            }
        }
        return count;
    }
}
