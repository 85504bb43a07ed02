import java.util.NoSuchElementException;

/** Long runs of any calls, with right and wrong arguments; always the same runs. */
public final class RandomRunsTest {
    private static final int RUNS = 400;
    private static final int CALLS = 400;
    private static final Check check = new Check();
    private static long seed = 20261119L;

    public static void main(String[] args) {
        int unsound = 0;
        int astray = 0;
        for (int run = 0; run < RUNS; run++) {
            CloudHall hall = startOf(run);
            for (int i = 0; i < CALLS; i++) {
                String thrown = callAny(hall);
                if (thrown.startsWith("!")) {
                    astray++;
                    System.out.println("run " + run + ", call " + i + ": " + thrown);
                }
                if (!hall.isSound() || !agrees(hall)) {
                    unsound++;
                }
            }
        }
        check.is("exceptions that the document does not name", astray, 0);
        check.is("halls that are not sound", unsound, 0);
        refusedCallsChangeNothing();
        batteriesBearWhatIsDrawn();
        check.end();
    }

    /** From here on, what is asked of it follows from this number alone. */
    static void startAt(long number) {
        seed = number;
    }

    static int any(int bound) {
        seed = seed * 6364136223846793005L + 1442695040888963407L;
        return (int) Math.floorMod(seed >>> 33, (long) bound);
    }

    /** One argument in thirty is out of its range. */
    private static int in(int least, int most) {
        if (any(30) == 0) {
            return any(2) == 0 ? least - 1 : most + 1;
        }
        return least + any(most - least + 1);
    }

    static CloudHall startOf(int run) {
        CloudHall hall = new CloudHall();
        int racks = run % 8 + 1;
        for (int i = 0; i < racks; i++) {
            hall.addRack(i % 3, run % 3 == 0 ? 10 + any(30) : 30 + any(170));
            hall.addMachine(i, 8, 3);
            hall.addMachine(i, 1 + any(16), 1 + any(9));
        }
        return hall;
    }

    private static String callAny(CloudHall hall) {
        return callAny(hall, any(60));
    }

    static String callAny(CloudHall hall, int kind) {
        try {
            call(hall, kind);
            return "";
        } catch (RuntimeException e) {
            return isNamed(kind, e) && isThrownByHall(e) ? "refused" : "!" + kind + " " + e;
        }
    }

    /** What the machine or its library throws is never due, even if it bears the right name. */
    private static boolean isThrownByHall(RuntimeException e) {
        StackTraceElement[] trace = e.getStackTrace();
        return trace.length > 0 && trace[0].getClassName().startsWith("CloudHall");
    }

    private static void call(CloudHall h, int kind) {
        switch (kind) {
            case 0: h.addRack(in(0, 2), in(10, 60)); break;
            case 1: case 2: h.addMachine(in(0, 7), in(1, 16), in(1, 9)); break;
            case 3: h.setCooling(in(0, 2), in(0, 300) / 4); break;
            case 4: h.setBattery(in(0, 1), any(3) == 0 ? in(0, 2000) : in(0, 60)); break;
            case 5: case 6: case 7: h.setMains(in(0, 1), any(5) < 3); break;
            case 8: h.setQuota(in(0, 3), in(0, 400) / (1 + any(20))); break;
            case 9: case 10: case 11: case 12: h.submit(in(0, 3), in(1, 6), in(1, 8), in(1, 40), in(-1, 9)); break;
            case 13: case 14: h.store(in(1, 3), in(1, 9)); break;
            case 15: h.cancel(in(0, 20)); break;
            case 16: case 17: h.drain(in(0, 16), any(2) == 0); break;
            case 18: case 19: h.turnOff(in(0, 16)); break;
            case 20: case 21: case 22: h.turnOn(in(0, 16)); break;
            case 23: case 24: h.pull(in(0, 16), in(0, 1), any(3) != 0); break;
            case 25: h.fail(in(0, 23)); break;
            case 26: case 27: h.repair(in(0, 23)); break;
            case 28: case 29: h.resetBreaker(in(0, 7), in(0, 1)); break;
            case 30: h.setCrew(in(0, 5), in(0, 50)); break;
            case 31: case 32: case 33: case 34: case 35: case 36: h.pass(any(8) == 0 ? in(1, 24) : in(1, 3)); break;
            default: ask(h, kind);
        }
    }

    private static void ask(CloudHall h, int kind) {
        switch (kind) {
            case 37: h.stateOf(in(0, 23)); break;
            case 38: h.load(in(0, 23)); break;
            case 39: h.stored(in(0, 23)); break;
            case 40: h.heat(in(0, 2)); break;
            case 41: h.draw(in(0, 7), in(0, 1)); break;
            case 42: h.hasTripped(in(0, 7), in(0, 1)); break;
            case 43: h.charge(in(0, 1)); break;
            case 44: h.jobState(in(0, 39)); break;
            case 45: h.machineOf(in(0, 39), in(0, 5)); break;
            case 46: h.left(in(0, 39)); break;
            case 47: h.used(in(0, 3)); break;
            case 48: h.copies(in(0, 19)); break;
            case 49: h.isLost(in(0, 19)); break;
            case 50: h.alarm(in(0, 59)); break;
            case 51: h.alarmOf(in(0, 59)); break;
            case 52: h.causeOf(in(0, 59)); break;
            case 53: h.bill(in(0, 3)); break;
            case 54: h.fullness(); break;
            case 55: h.meanHeat(); break;
            default: h.isSafe();
        }
    }

    private static boolean isNamed(int kind, RuntimeException e) {
        Class<?> thrown = e.getClass();
        boolean number = thrown == IllegalArgumentException.class;
        boolean noSuch = thrown == IndexOutOfBoundsException.class;
        boolean state = thrown == IllegalStateException.class;
        boolean unsupported = thrown == UnsupportedOperationException.class;
        switch (kind) {
            case 0: case 9: case 10: case 11: case 12:
            case 31: case 32: case 33: case 34: case 35: case 36: return number || state;
            case 1: case 2: case 28: case 29: return noSuch || number || state;
            case 3: case 4: case 5: case 6: case 7: case 8: case 30: case 40: case 43: case 47: case 53: return number;
            case 13: case 14: return number || state || unsupported;
            case 15: case 16: case 17: case 20: case 21: case 22: case 25: case 26: case 27: return noSuch || state;
            case 18: case 19: return noSuch || state || unsupported;
            case 23: case 24: return noSuch || number || unsupported;
            case 37: case 38: case 39: case 44: case 46: case 48: case 49: case 50: case 51: case 52: return noSuch;
            case 41: case 42: return noSuch || number;
            case 45: return noSuch || thrown == NoSuchElementException.class;
            case 54: case 55: return thrown == ArithmeticException.class;
            default: return false;
        }
    }

    /** What can be asked in two ways must be told the same in both. */
    private static boolean agrees(CloudHall h) {
        String states = Check.states(h);
        int[] loads = new int[states.length()];
        int all = 0;
        for (int job = 0; job < 40; job++) {
            try {
                String places = Check.places(h, job);
                if (h.jobState(job) == 'r') {
                    all += places.split(" ").length;
                    for (String place : places.split(" ")) {
                        loads[Integer.parseInt(place)]++;
                    }
                }
            } catch (IndexOutOfBoundsException e) {
                break;
            }
        }
        int load = 0;
        for (int i = 0; i < loads.length; i++) {
            boolean hasParts = loads[i] > 0;
            if (hasParts != h.load(i) > 0 || hasParts && h.stateOf(i) != '+' || h.stored(i) < 0 || h.stored(i) > 12) {
                return false;
            }
            load += h.load(i);
        }
        return load == h.used(0) + h.used(1) + h.used(2) + h.used(3) && all <= load;
    }

    private static void refusedCallsChangeNothing() {
        int changed = 0;
        for (int run = 0; run < 40; run++) {
            CloudHall hall = startOf(run);
            for (int i = 0; i < CALLS; i++) {
                String before = Check.snapshot(hall) + Check.innards(hall);
                if (callAny(hall).equals("refused") && !before.equals(Check.snapshot(hall) + Check.innards(hall))) {
                    changed++;
                }
            }
        }
        check.is("refused calls that changed something", changed, 0);
    }

    /** By each feed without mains, what was drawn by it ahead of the hour; neither feed's end weighs on the other. */
    private static void batteriesBearWhatIsDrawn() {
        int wrong = 0;
        int emptied = 0;
        for (int run = 0; run < 200; run++) {
            CloudHall hall = startOf(run);
            hall.setMains(0, false);
            hall.setMains(1, run % 4 == 0);
            for (int i = 0; i < CALLS / 2; i++) {
                int kind = any(31);
                if (kind < 5 || kind > 7) {
                    callAny(hall, kind);
                }
                hall.setBattery(any(2), any(40));
                int due0 = Math.max(0, hall.charge(0) - drawOfAll(hall, 0));
                int due1 = run % 4 == 0 ? -1 : Math.max(0, hall.charge(1) - drawOfAll(hall, 1));
                emptied += due0 == 0 && due1 > 0 ? 1 : 0;
                hall.pass(1);
                wrong += hall.charge(0) != due0 || due1 >= 0 && hall.charge(1) != due1 ? 1 : 0;
            }
        }
        check.is("charges behind an hour", wrong, 0);
        check.is("one battery ran out ahead of the other", emptied > 100, true);
    }

    private static int drawOfAll(CloudHall hall, int feed) {
        int sum = 0;
        for (int rack = 0; rack < 8; rack++) {
            try {
                sum += hall.draw(rack, feed);
            } catch (IndexOutOfBoundsException e) {
                return sum;
            }
        }
        return sum;
    }
}
