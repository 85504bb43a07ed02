import java.util.NoSuchElementException;

/**
 * The least and the greatest of each argument of each call, by promises 2 to 40: both are taken, and so is what
 * lies next to them inside; one less, one more and the ends of int are refused, by the exception that is documented
 * first, also where two arguments are wrong or the hall could not do it anyway.
 */
public final class ArgumentsTest {
    interface Act {
        Object on(CloudHall h, int[] a);
    }

    interface Due {
        Object of(int[] a);
    }

    interface Maker {
        CloudHall make();
    }

    /** What one argument can be, what is thrown if it is not, and whether that is documented ahead of others. */
    private static final class Range {
        final Class<?> thrown;
        final int rank;
        final int least;
        final int most;

        Range(Class<?> thrown, int rank, int least, int most) {
            this.thrown = thrown;
            this.rank = rank;
            this.least = least;
            this.most = most;
        }

        int[] inside() {
            return new int[] {least, Math.min(least + 1, most), Math.max(most - 1, least), most};
        }

        int[] outside() {
            return new int[] {least - 1, most + 1, Integer.MIN_VALUE, Integer.MAX_VALUE};
        }
    }

    private static final Class<?> STATE = IllegalStateException.class;
    private static final Class<?> NO_SUCH = IndexOutOfBoundsException.class;
    private static final Class<?> UNSUPPORTED = UnsupportedOperationException.class;
    private static final Class<?> NO_ELEMENT = NoSuchElementException.class;
    private static final Check check = new Check();

    public static void main(String[] args) {
        callsOfTheHall();
        callsOfJobsAndVolumes();
        callsOfWorks();
        callsOfFaults();
        callsThatAskForOneThing();
        callsThatAskForOneOfTwo();
        callsThatAskForAlarms();
        callsOnAFullHall();
        callsThatTheStateRefuses();
        check.end();
    }

    private static Range number(int least, int most) {
        return new Range(IllegalArgumentException.class, 2, least, most);
    }

    private static Range index(int count) {
        return new Range(NO_SUCH, 1, 0, count - 1);
    }

    /** Three racks of two machines each, two volumes of three copies, three jobs of six parts that run. */
    private static CloudHall busy() {
        CloudHall h = Check.hallOf(3, 2, 50);
        h.store(3, 2);
        h.store(3, 2);
        for (int i = 0; i < 3; i++) {
            h.submit(0, 6, 1, 5, -1);
        }
        h.pass(1);
        return h;
    }

    private static CloudHall allOff() {
        CloudHall h = Check.hallOf(3, 2, 50);
        for (int i = 0; i < 6; i++) {
            h.turnOff(i);
        }
        return h;
    }

    private static CloudHall allFailed() {
        CloudHall h = busy();
        for (int i = 0; i < 6; i++) {
            h.fail(i);
        }
        return h;
    }

    /** All six breakers have tripped, and bear what would be drawn by now. */
    private static CloudHall allTripped() {
        CloudHall h = Check.hallOf(3, 3, 10);
        h.setBattery(1, 0);
        h.setMains(1, false);
        h.setMains(1, true);
        for (int i = 0; i < 9; i += 3) {
            h.turnOff(i);
        }
        return h;
    }

    /** Four alarms: one about breaker 0 and, of this, those about machines 0 to 2. */
    private static CloudHall alarmed() {
        CloudHall h = Check.hallOf(1, 2, 10);
        h.setBattery(1, 0);
        h.setMains(1, false);
        h.addMachine(0, 1, 1);
        return h;
    }

    /** All that can be added has been: no rack, machine, job or volume more, and no room for one either. */
    private static CloudHall full() {
        CloudHall h = Check.hallOf(8, 3, 50);
        for (int i = 0; i < 20; i++) {
            h.store(1, 9);
        }
        for (int i = 0; i < 4; i++) {
            h.drain(20 + i, true);
        }
        for (int i = 0; i < 40; i++) {
            h.submit(i % 4, 1, 1, 40, -1);
        }
        return h;
    }

    private static void ask(String name, Maker maker, Act act, int[] good, Due due, Range... ranges) {
        for (int i = 0; i < ranges.length; i++) {
            for (int value : ranges[i].inside()) {
                int[] a = good.clone();
                a[i] = value;
                check.is(called(name, a), act.on(maker.make(), a), due.of(a));
            }
        }
        refuseOneWrong(name, maker, act, good, ranges);
        refuseTwoWrong(name, maker, act, good, ranges);
    }

    private static void refuseOneWrong(String name, Maker maker, Act act, int[] good, Range... ranges) {
        CloudHall h = maker.make();
        for (int i = 0; i < ranges.length; i++) {
            for (int value : ranges[i].outside()) {
                int[] a = good.clone();
                a[i] = value;
                check.refuses(called(name, a), h, ranges[i].thrown, () -> act.on(h, a));
            }
        }
    }

    private static void refuseTwoWrong(String name, Maker maker, Act act, int[] good, Range... ranges) {
        CloudHall h = maker.make();
        for (int i = 0; i < ranges.length; i++) {
            for (int j = 0; j < i; j++) {
                Range first = ranges[i].rank < ranges[j].rank ? ranges[i] : ranges[j];
                for (int k = 0; k < 4; k++) {
                    int[] a = good.clone();
                    a[i] = ranges[i].outside()[k];
                    a[j] = ranges[j].outside()[(k + i) % 4];
                    check.refuses(called(name, a), h, first.thrown, () -> act.on(h, a));
                }
            }
        }
    }

    /** All arguments are right, but the hall can't do it: then one or two that are wrong weigh more than that. */
    private static void refuseAll(String name, Maker maker, Act act, Class<?> thrown, int[] good, Range... ranges) {
        CloudHall h = maker.make();
        for (int i = 0; i < ranges.length; i++) {
            for (int value : ranges[i].inside()) {
                int[] a = good.clone();
                a[i] = value;
                check.refuses(called(name, a), h, thrown, () -> act.on(h, a));
            }
        }
        refuseOneWrong(name, maker, act, good, ranges);
        refuseTwoWrong(name, maker, act, good, ranges);
    }

    private static String called(String name, int[] a) {
        StringBuilder all = new StringBuilder(name);
        for (int value : a) {
            all.append(' ').append(value);
        }
        return all.toString();
    }

    private static int[] of(int... good) {
        return good;
    }

    private static void callsOfTheHall() {
        ask("2 addRack", ArgumentsTest::busy, (h, a) -> h.addRack(a[0], a[1]), of(1, 50), a -> 3,
                number(0, 2), number(10, 200));
        ask("3 addMachine", ArgumentsTest::busy, (h, a) -> h.addMachine(a[0], a[1], a[2]), of(1, 8, 5), a -> 6,
                index(3), number(1, 16), number(1, 9));
        ask("4 setCooling", ArgumentsTest::busy, (h, a) -> h.setCooling(a[0], a[1]), of(1, 5), a -> 60,
                number(0, 2), number(0, 300));
        ask("5 setBattery", ArgumentsTest::busy, (h, a) -> h.setBattery(a[0], a[1]), of(1, 5), a -> 300,
                number(0, 1), number(0, 2000));
        ask("6 setMains off", ArgumentsTest::busy, (h, a) -> h.setMains(a[0], false), of(1), a -> true, number(0, 1));
        ask("6 setMains on", ArgumentsTest::busy, (h, a) -> h.setMains(a[0], true), of(1), a -> true, number(0, 1));
    }

    private static void callsOfJobsAndVolumes() {
        ask("7 setQuota", ArgumentsTest::busy, (h, a) -> h.setQuota(a[0], a[1]), of(1, 50), a -> 40,
                number(0, 3), number(0, 400));
        ask("8 submit", ArgumentsTest::busy, (h, a) -> h.submit(a[0], a[1], a[2], a[3], a[4]), of(1, 3, 4, 9, 5), a -> 3,
                number(0, 3), number(1, 6), number(1, 8), number(1, 40), number(-1, 9));
        ask("9 store", ArgumentsTest::busy, (h, a) -> h.store(a[0], a[1]), of(2, 5), a -> 2, number(1, 3), number(1, 9));
        ask("10 cancel", ArgumentsTest::busy, (h, a) -> h.cancel(a[0]), of(1), a -> 6, index(3));
    }

    private static void callsOfWorks() {
        ask("11 drain", ArgumentsTest::busy, (h, a) -> h.drain(a[0], true), of(1), a -> 0, index(6));
        ask("11 drain no more", ArgumentsTest::busy, (h, a) -> h.drain(a[0], false), of(1), a -> 0, index(6));
        ask("12 turnOff", ArgumentsTest::busy, (h, a) -> h.turnOff(a[0]), of(1), a -> 3, index(6));
        ask("13 turnOn", ArgumentsTest::allOff, (h, a) -> h.turnOn(a[0]), of(1), a -> 1, index(6));
        ask("14 pull", ArgumentsTest::busy, (h, a) -> h.pull(a[0], a[1], false), of(1, 1), a -> 1, index(6), number(0, 1));
        ask("14 pull in", ArgumentsTest::busy, (h, a) -> h.pull(a[0], a[1], true), of(1, 1), a -> 2, index(6), number(0, 1));
        ask("18 setCrew", ArgumentsTest::busy, (h, a) -> h.setCrew(a[0], a[1]), of(3, 5), a -> 4, number(0, 5), number(0, 50));
        ask("19 pass", ArgumentsTest::busy, (h, a) -> h.pass(a[0]), of(2), a -> 1 + a[0], number(1, 24));
    }

    private static void callsOfFaults() {
        ask("15 fail", ArgumentsTest::busy, (h, a) -> h.fail(a[0]), of(1), a -> 4, index(6));
        ask("16 repair", ArgumentsTest::allFailed, (h, a) -> h.repair(a[0]), of(1), a -> 1, index(6));
        ask("17 resetBreaker", ArgumentsTest::allTripped, (h, a) -> h.resetBreaker(a[0], a[1]), of(1, 1), a -> 8,
                index(3), number(0, 1));
    }

    private static void callsThatAskForOneThing() {
        ask("21 stateOf", ArgumentsTest::busy, (h, a) -> h.stateOf(a[0]), of(1), a -> '+', index(6));
        ask("22 load", ArgumentsTest::busy, (h, a) -> h.load(a[0]), of(1), a -> 3, index(6));
        ask("23 stored", ArgumentsTest::busy, (h, a) -> h.stored(a[0]), of(1), a -> 2, index(6));
        ask("24 heat", ArgumentsTest::busy, (h, a) -> h.heat(a[0]), of(1), a -> 20, number(0, 2));
        ask("27 charge", ArgumentsTest::busy, (h, a) -> h.charge(a[0]), of(1), a -> 300, number(0, 1));
        ask("28 jobState", ArgumentsTest::busy, (h, a) -> h.jobState(a[0]), of(1), a -> 'r', index(3));
        ask("30 left", ArgumentsTest::busy, (h, a) -> h.left(a[0]), of(1), a -> 5, index(3));
        ask("31 used", ArgumentsTest::busy, (h, a) -> h.used(a[0]), of(1), a -> a[0] == 0 ? 18 : 0, number(0, 3));
        ask("32 copies", ArgumentsTest::busy, (h, a) -> h.copies(a[0]), of(1), a -> 3, index(2));
        ask("33 isLost", ArgumentsTest::busy, (h, a) -> h.isLost(a[0]), of(1), a -> false, index(2));
        ask("33 isLost", ArgumentsTest::allFailed, (h, a) -> h.isLost(a[0]), of(1), a -> true, index(2));
        ask("39 bill", ArgumentsTest::busy, (h, a) -> h.bill(a[0]), of(1), a -> 0L, number(0, 3));
    }

    private static void callsThatAskForOneOfTwo() {
        ask("25 draw", ArgumentsTest::busy, (h, a) -> h.draw(a[0], a[1]), of(1, 1), a -> a[1] == 0 ? 8 : 6,
                index(3), number(0, 1));
        ask("26 hasTripped", ArgumentsTest::busy, (h, a) -> h.hasTripped(a[0], a[1]), of(1, 1), a -> false,
                index(3), number(0, 1));
        ask("26 hasTripped", ArgumentsTest::allTripped, (h, a) -> h.hasTripped(a[0], a[1]), of(1, 1), a -> true,
                index(3), number(0, 1));
        ask("29 machineOf", ArgumentsTest::busy, (h, a) -> h.machineOf(a[0], a[1]), of(1, 1), a -> a[1], index(3), index(6));
    }

    private static void callsThatAskForAlarms() {
        ask("35 alarm", ArgumentsTest::alarmed, (h, a) -> h.alarm(a[0]), of(1), a -> a[0] == 3 ? 'b' : 'p', index(4));
        ask("36 alarmOf", ArgumentsTest::alarmed, (h, a) -> h.alarmOf(a[0]), of(1), a -> a[0] == 3 ? 0 : 2 - a[0], index(4));
        ask("37 causeOf", ArgumentsTest::alarmed, (h, a) -> h.causeOf(a[0]), of(1), a -> 3, index(4));
        refuseAll("35 alarm", CloudHall::new, (h, a) -> h.alarm(a[0]), NO_SUCH, of(0), index(60));
        refuseAll("36 alarmOf", CloudHall::new, (h, a) -> h.alarmOf(a[0]), NO_SUCH, of(0), index(60));
        refuseAll("37 causeOf", CloudHall::new, (h, a) -> h.causeOf(a[0]), NO_SUCH, of(0), index(60));
    }

    private static void callsOnAFullHall() {
        refuseAll("2 addRack, there are 8", ArgumentsTest::full, (h, a) -> h.addRack(a[0], a[1]), STATE, of(1, 50),
                number(0, 2), number(10, 200));
        refuseAll("3 addMachine, there are 24", ArgumentsTest::full, (h, a) -> h.addMachine(a[0], a[1], a[2]), STATE,
                of(1, 8, 5), index(8), number(1, 16), number(1, 9));
        refuseAll("8 submit, there were 40", ArgumentsTest::full, (h, a) -> h.submit(a[0], a[1], a[2], a[3], a[4]), STATE,
                of(1, 3, 4, 9, 5), number(0, 3), number(1, 6), number(1, 8), number(1, 40), number(-1, 9));
        refuseAll("9 store, there were 20, and no room", ArgumentsTest::full, (h, a) -> h.store(a[0], a[1]), STATE,
                of(3, 9), number(1, 3), number(1, 9));
        refuseAll("9 store, no machine", CloudHall::new, (h, a) -> h.store(a[0], a[1]), UNSUPPORTED,
                of(3, 9), number(1, 3), number(1, 9));
    }

    /** Four machines in rack 0, one of them failed, with parts by one feed alone; the last hour. */
    private static CloudHall atTheEnd() {
        CloudHall h = Check.hallOf(1, 4, 200);
        for (int i = 0; i < 83; i++) {
            h.pass(24);
        }
        h.pass(7);
        h.submit(0, 4, 3, 40, -1);
        h.submit(0, 6, 8, 40, -1);
        h.pass(1);
        h.setMains(0, false);
        h.setBattery(0, 0);
        return h;
    }

    private static void callsThatTheStateRefuses() {
        refuseAll("3 addMachine, the rack has 4", ArgumentsTest::atTheEnd, (h, a) -> h.addMachine(a[0], a[1], a[2]), STATE,
                of(0, 8, 5), index(1), number(1, 16), number(1, 9));
        refuseAll("14 pull, the last power", ArgumentsTest::atTheEnd, (h, a) -> h.pull(a[0], 1, false), UNSUPPORTED,
                of(1), index(4));
        Act pull = (h, a) -> h.pull(a[0], a[1], false);
        refuseOneWrong("14 pull, the last power", ArgumentsTest::atTheEnd, pull, of(1, 1), index(4), number(0, 1));
        refuseTwoWrong("14 pull, the last power", ArgumentsTest::atTheEnd, pull, of(1, 1), index(4), number(0, 1));
        refuseAll("19 pass, at hour 2000", ArgumentsTest::atTheEnd, (h, a) -> h.pass(a[0]), STATE, of(2), number(1, 24));
        refuseAll("29 machineOf, it waits", ArgumentsTest::full, (h, a) -> h.machineOf(a[0], a[1]), NO_ELEMENT,
                of(1, 0), index(40), index(1));
        refuseAll("17 resetBreaker, none has tripped", ArgumentsTest::full, (h, a) -> h.resetBreaker(a[0], a[1]), STATE,
                of(1, 0), index(8), number(0, 1));
        refuseAll("11 drain, all failed", ArgumentsTest::allFailed, (h, a) -> h.drain(a[0], true), STATE, of(0), index(6));
        refuseAll("12 turnOff, all failed", ArgumentsTest::allFailed, (h, a) -> h.turnOff(a[0]), STATE, of(0), index(6));
        refuseAll("12 turnOff, all off", ArgumentsTest::allOff, (h, a) -> h.turnOff(a[0]), STATE, of(0), index(6));
        refuseAll("13 turnOn, all failed", ArgumentsTest::allFailed, (h, a) -> h.turnOn(a[0]), STATE, of(0), index(6));
        refuseAll("13 turnOn, all on", ArgumentsTest::busy, (h, a) -> h.turnOn(a[0]), STATE, of(0), index(6));
        refuseAll("15 fail, all failed", ArgumentsTest::allFailed, (h, a) -> h.fail(a[0]), STATE, of(0), index(6));
        refuseAll("16 repair, none failed", ArgumentsTest::busy, (h, a) -> h.repair(a[0]), STATE, of(0), index(6));
    }
}
