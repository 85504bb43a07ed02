import java.lang.reflect.Array;
import java.lang.reflect.Field;
import java.lang.reflect.Modifier;
import java.util.IdentityHashMap;
import java.util.List;
import java.util.Map;

/** Counts answers that are not due; every refused call must leave all there is as it was. */
final class Check {
    interface Call {
        Object answer();
    }

    private int asked = 0;
    private int wrong = 0;

    void is(String what, Object got, Object want) {
        asked++;
        if (!want.equals(got)) {
            wrong++;
            System.out.println(what + ": answered " + got + ", due is " + want);
        }
    }

    void refuses(String what, CloudHall hall, Class<?> want, Call call) {
        asked++;
        String before = snapshot(hall) + innards(hall);
        Class<?> thrown = null;
        String by = "";
        try {
            call.answer();
        } catch (RuntimeException e) {
            thrown = e.getClass();
            by = e.getStackTrace().length > 0 ? e.getStackTrace()[0].getClassName() : "";
        }
        if (thrown != want || !by.startsWith("CloudHall")) {
            wrong++;
            System.out.println(what + ": threw " + thrown + " by " + by + ", due is " + want + " by the hall itself");
        } else if (!before.equals(snapshot(hall) + innards(hall))) {
            wrong++;
            System.out.println(what + ": threw, and changed something");
        }
    }

    /** A machine that is on comes to this state, one of "+-suf". */
    void brings(CloudHall h, int machine, char state) {
        if (state == '-' || state == 's') {
            h.turnOff(machine);
        }
        if (state == 's') {
            h.turnOn(machine);
        }
        if (state == 'u') {
            h.pull(machine, 0, false);
            h.pull(machine, 1, false);
        }
        if (state == 'f') {
            h.fail(machine);
        }
        is("21 as it was brought", h.stateOf(machine), state);
    }

    void end() {
        System.out.println(asked - wrong + " of " + asked + " answers are as due");
        if (wrong != 0 || asked == 0) {
            System.exit(1);
        }
    }

    /** Racks in aisles 0, 1, 2, 0 and so on, with machines of 8 cores that take a watt each. */
    static CloudHall hallOf(int racks, int machinesEach, int breaker) {
        CloudHall h = new CloudHall();
        for (int i = 0; i < racks; i++) {
            h.addRack(i % 3, breaker);
            for (int j = 0; j < machinesEach; j++) {
                h.addMachine(i, 8, 1);
            }
        }
        return h;
    }

    /** One part of a job of tenant 3 takes these cores of this machine, by letting an hour pass; its job's number. */
    static int take(CloudHall h, int machine, int cores) {
        h.setQuota(3, 400);
        String states = states(h);
        for (int i = 0; i < states.length(); i++) {
            if (i != machine && states.charAt(i) != 'f') {
                h.drain(i, true);
            }
        }
        int job = -1;
        for (int rest = cores; rest > 0; rest -= 8) {
            job = h.submit(3, 1, Math.min(8, rest), 40, -1);
        }
        h.pass(1);
        for (int i = 0; i < states.length(); i++) {
            if (i != machine && states.charAt(i) != 'f') {
                h.drain(i, false);
            }
        }
        return job;
    }

    /** Neither the mains nor the battery of a feed give anything from now on. */
    static void kill(CloudHall h, int feed) {
        h.setBattery(feed, 0);
        h.setMains(feed, false);
    }

    /** What a rack draws by both feeds. */
    static String draws(CloudHall h, int rack) {
        return h.draw(rack, 0) + " " + h.draw(rack, 1);
    }

    static String snapshot(CloudHall h) {
        StringBuilder all = new StringBuilder();
        all.append(h.hour()).append(' ').append(h.tickets()).append(' ').append(h.isSafe());
        addMachines(all, h);
        addRacks(all, h);
        addJobs(all, h);
        addVolumes(all, h);
        for (int i = 0; i < 4; i++) {
            all.append(" tenant ").append(h.used(i)).append(' ').append(h.bill(i));
        }
        for (int i = 0; i < 3; i++) {
            all.append(" aisle ").append(h.heat(i));
        }
        all.append(" charges ").append(h.charge(0)).append(' ').append(h.charge(1));
        all.append(" alarms ").append(alarms(h));
        return all.toString();
    }

    /** All that the hall holds, also what no call tells: quotas, coolings, what is drained, how tickets stand. */
    static String innards(CloudHall h) {
        StringBuilder all = new StringBuilder();
        try {
            addInnards(all, h, new IdentityHashMap<>());
        } catch (IllegalAccessException e) {
            throw new IllegalStateException(e);
        }
        return all.toString();
    }

    private static void addInnards(StringBuilder all, Object part, Map<Object, Integer> met)
            throws IllegalAccessException {
        if (part == null || part instanceof Number || part instanceof Boolean || part instanceof Character
                || part instanceof String) {
            all.append(part).append(' ');
        } else if (met.containsKey(part)) {
            all.append('#').append(met.get(part)).append(' ');
        } else {
            met.put(part, met.size());
            all.append('(');
            addParts(all, part, met);
            all.append(") ");
        }
    }

    private static void addParts(StringBuilder all, Object whole, Map<Object, Integer> met)
            throws IllegalAccessException {
        if (whole instanceof List<?>) {
            for (Object part : (List<?>) whole) {
                addInnards(all, part, met);
            }
        } else if (whole.getClass().isArray()) {
            for (int i = 0; i < Array.getLength(whole); i++) {
                addInnards(all, Array.get(whole, i), met);
            }
        } else {
            for (Field field : whole.getClass().getDeclaredFields()) {
                if (!Modifier.isStatic(field.getModifiers())) {
                    field.setAccessible(true);
                    addInnards(all.append(field.getName()).append('='), field.get(whole), met);
                }
            }
        }
    }

    /** All alarms that are kept, the last one first, each as its sign, what it is about and its cause's index. */
    static String alarms(CloudHall h) {
        StringBuilder all = new StringBuilder();
        all.append(h.alarms());
        for (int i = 0; i < Math.min(60, h.alarms()); i++) {
            all.append(' ').append(h.alarm(i)).append(h.alarmOf(i));
            if (h.causeOf(i) != i) {
                all.append('<').append(h.causeOf(i));
            }
        }
        return all.toString();
    }

    /** The states of all machines in one word. */
    static String states(CloudHall h) {
        StringBuilder all = new StringBuilder();
        for (int i = 0; has(h, "machine", i); i++) {
            all.append(h.stateOf(i));
        }
        return all.toString();
    }

    /** The machines of a job's parts, or its state if it does not run. */
    static String places(CloudHall h, int job) {
        if (h.jobState(job) != 'r') {
            return String.valueOf(h.jobState(job));
        }
        StringBuilder all = new StringBuilder();
        for (int part = 0; part < 6; part++) {
            try {
                all.append(part == 0 ? "" : " ").append(h.machineOf(job, part));
            } catch (IndexOutOfBoundsException e) {
                return all.toString().trim();
            }
        }
        return all.toString();
    }

    private static void addMachines(StringBuilder all, CloudHall h) {
        for (int i = 0; has(h, "machine", i); i++) {
            all.append(" machine ").append(h.stateOf(i)).append(h.load(i)).append(' ').append(h.stored(i));
        }
    }

    private static void addRacks(StringBuilder all, CloudHall h) {
        for (int i = 0; has(h, "rack", i); i++) {
            for (int feed = 0; feed < 2; feed++) {
                all.append(" feed ").append(h.draw(i, feed)).append(h.hasTripped(i, feed));
            }
        }
    }

    private static void addJobs(StringBuilder all, CloudHall h) {
        for (int i = 0; has(h, "job", i); i++) {
            all.append(" job ").append(h.jobState(i)).append(h.left(i)).append(' ').append(places(h, i));
        }
    }

    private static void addVolumes(StringBuilder all, CloudHall h) {
        for (int i = 0; has(h, "volume", i); i++) {
            all.append(" volume ").append(h.copies(i)).append(h.isLost(i));
        }
    }

    private static boolean has(CloudHall h, String kind, int number) {
        try {
            switch (kind) {
                case "machine": h.stateOf(number); break;
                case "rack": h.draw(number, 0); break;
                case "job": h.jobState(number); break;
                default: h.copies(number);
            }
            return true;
        } catch (IndexOutOfBoundsException e) {
            return false;
        }
    }
}
