import java.lang.reflect.Field;
import java.util.List;

/** Promises 38 to 43, at each bound and on either side of it. */
public final class BoundsOfFiguresTest {
    private static final Class<?> ARITHMETIC = ArithmeticException.class;
    private static final Check check = new Check();

    public static void main(String[] args) throws Exception {
        safeByCopies();
        safeByCopiesOnAnyMachine();
        safeByFeedsOfAMachine();
        safeByFeedsThatAreLive();
        safeByBreakersThatAreIn();
        safeByWhatABreakerBears();
        safeByWhatIsDrawnByOneFeedAlone();
        ticketsThatWait();
        fullnessOfThoseThatAreOn();
        fullnessOfNone();
        meanOfAislesThatHaveRacks();
        soundByCores();
        soundByMachinesThatAreOn();
        soundByGroups();
        soundByBreakers();
        soundByCopies();
        soundByQuotas();
        askingChangesNothing();
        check.end();
    }

    private static void safeByCopies() {
        for (int copies = 1; copies <= 3; copies++) {
            CloudHall h = Check.hallOf(3, 1, 50);
            h.store(copies, 1);
            for (int there = copies; there > 0; there--) {
                check.is("38 " + there + " copies of " + copies, h.isSafe(), there > 1);
                h.fail(copies - there);
            }
            check.is("38 no copy more to lose of " + copies, h.isSafe(), true);
        }
        CloudHall h = Check.hallOf(3, 1, 50);
        check.is("38 no volume", h.isSafe() && new CloudHall().isSafe(), true);
        for (int i = 0; i < 19; i++) {
            h.store(i % 2 + 2, 1);
            check.is("38 more than one copy of each", h.isSafe(), true);
            if (i == 8) {
                h.store(1, 1);
                check.is("38 but of one", h.isSafe(), false);
                return;
            }
        }
    }

    private static void safeByCopiesOnAnyMachine() {
        for (char state : new char[] {'+', '-', 's', 'u', 'f'}) {
            CloudHall h = Check.hallOf(2, 1, 50);
            h.store(2, 1);
            check.brings(h, 0, state);
            check.is("38 two copies, one of them on a machine that is " + state, h.isSafe(), state != 'f');
        }
        CloudHall one = Check.hallOf(1, 1, 50);
        one.store(1, 1);
        check.brings(one, 0, 'u');
        check.is("38 one copy, on a machine without power", one.isSafe(), false);
    }

    private static CloudHall running(int bears, int cores) {
        CloudHall h = Check.hallOf(1, 1, bears);
        Check.take(h, 0, cores);
        check.is("31 as it was made", h.used(3), cores);
        return h;
    }

    private static void safeByFeedsOfAMachine() {
        for (int cores = 0; cores <= 1; cores++) {
            for (int feed = 0; feed < 2; feed++) {
                CloudHall h = running(50, cores);
                check.is("38 both feeds", h.isSafe(), true);
                h.pull(0, feed, false);
                check.is("38 one feed alone, and " + cores + " cores taken", h.isSafe(), cores == 0);
                h.pull(0, feed, true);
                check.is("38 both feeds again", h.isSafe(), true);
            }
        }
    }

    private static void safeByFeedsThatAreLive() {
        for (int feed = 0; feed < 2; feed++) {
            for (int charge = 0; charge <= 2; charge++) {
                CloudHall h = running(50, 1);
                h.setBattery(feed, charge);
                check.is("38 mains, and a charge of " + charge, h.isSafe(), true);
                h.setMains(feed, false);
                check.is("38 no mains, and a charge of " + charge, h.isSafe(), charge > 0);
                h.setMains(1 - feed, false);
                check.is("38 no mains of both, charges of 300 and " + charge, h.isSafe(), charge > 0);
                h.setBattery(1 - feed, 1);
                check.is("38 no mains of both, charges of 1 and " + charge, h.isSafe(), charge > 0);
                h.setMains(feed, true);
                check.is("38 mains, and the other feed's charge of 1", h.isSafe(), true);
            }
        }
        CloudHall idle = running(50, 0);
        Check.kill(idle, 0);
        check.is("38 one feed alone, but no part runs", idle.isSafe(), true);
    }

    private static void safeByBreakersThatAreIn() {
        for (int feed = 0; feed < 2; feed++) {
            CloudHall h = Check.hallOf(2, 3, 10);
            h.turnOff(3);
            h.turnOff(4);
            h.turnOff(5);
            for (int i = 0; i < 3; i++) {
                h.pull(i, 1 - feed, false);
            }
            check.is("26 rack 0's has tripped", h.hasTripped(0, feed) + Check.states(h), "trueuuu---");
            check.is("38 no part runs", h.isSafe(), true);
            h.turnOn(3);
            Check.take(h, 3, 1);
            check.is("38 a part in rack 1, by both feeds", h.load(3) + " " + h.isSafe(), "1 true");
            h.turnOff(1);
            h.turnOff(2);
            h.pull(0, 1 - feed, true);
            check.is("21 on by the other feed", h.stateOf(0), '+');
            check.is("38 still no part in rack 0", h.isSafe(), true);
            Check.take(h, 0, 1);
            check.is("38 a part in rack 0, by one breaker alone", h.load(0) + " " + h.isSafe(), "1 false");
            h.resetBreaker(0, feed);
            check.is("38 by both breakers", h.isSafe(), true);
        }
    }

    /** A part with some cores, and a machine that draws 4: all of both must be borne by each breaker alone. */
    private static void safeByWhatABreakerBears() {
        for (int bears = 10; bears <= 12; bears++) {
            for (int cores = 1; cores <= 6; cores++) {
                CloudHall h = running(bears, cores);
                check.is("38 " + (4 + cores) + " of " + bears, h.isSafe(), true);
                h.addMachine(0, 1, 1);
                check.is("38 " + (8 + cores) + " of " + bears, h.isSafe() + " " + h.alarms(), (8 + cores <= bears) + " 0");
                h.turnOff(1);
                check.is("38 without the other", h.isSafe(), true);
                h.turnOn(1);
                check.is("38 as the other starts", h.isSafe(), 8 + cores <= bears);
            }
        }
    }

    /** The second machine has one feed alone: it weighs on that, and dies with it, without a part. */
    private static void safeByWhatIsDrawnByOneFeedAlone() {
        for (int feed = 0; feed < 2; feed++) {
            for (int cores = 1; cores <= 4; cores++) {
                CloudHall h = running(10, cores);
                h.addMachine(0, 1, 1);
                h.pull(1, 1 - feed, false);
                check.is("38 as that is borne till now", h.alarms(), 0);
                check.is("38 " + (8 + cores) + " by feed " + feed + " alone", h.isSafe(), 8 + cores <= 10);
            }
        }
        CloudHall idle = Check.hallOf(1, 4, 10);
        idle.addRack(1, 50);
        idle.addMachine(1, 8, 1);
        Check.take(idle, 4, 3);
        check.is("38 a breaker that would trip, but no part by it", idle.load(4) + " " + idle.isSafe(), "3 true");
    }

    private static void ticketsThatWait() {
        CloudHall h = Check.hallOf(6, 4, 50);
        h.setCrew(5, 50);
        for (int i = 0; i < 24; i++) {
            h.fail(i);
            check.is("40 as many as were written", h.tickets(), i);
            check.is("16 one more", h.repair(i), i + 1);
        }
        for (int rest = 24; rest >= 0; rest -= 5) {
            check.is("40 those that wait", h.tickets(), rest);
            h.pass(1);
        }
        check.is("40 none", h.tickets(), 0);
    }

    private static void fullnessOfThoseThatAreOn() {
        for (int taken = 0; taken <= 16; taken++) {
            CloudHall h = new CloudHall();
            h.addRack(0, 200);
            h.addMachine(0, 16, 1);
            h.addMachine(0, 3, 1);
            Check.take(h, 0, taken);
            check.is("41 " + taken + " of 19", h.fullness(), (float) taken / (float) 19);
            h.turnOff(1);
            check.is("41 " + taken + " of 16", h.fullness(), (float) taken / (float) 16);
            h.turnOn(1);
            check.is("41 " + taken + " of 16, another starts", h.fullness(), (float) taken / (float) 16);
            h.pass(1);
            check.is("41 " + taken + " of 19", h.fullness(), (float) taken / (float) 19);
        }
    }

    private static void fullnessOfNone() {
        CloudHall h = new CloudHall();
        check.refuses("41 no rack", h, ARITHMETIC, h::fullness);
        h.addRack(0, 50);
        check.refuses("41 no machine", h, ARITHMETIC, h::fullness);
        h.addMachine(0, 1, 1);
        check.is("41 one that is on", h.fullness(), 0f);
        for (char state : new char[] {'-', 's', 'u', 'f'}) {
            CloudHall none = Check.hallOf(1, 2, 50);
            check.brings(none, 0, state);
            check.is("41 one that is on, one that is " + state, none.fullness(), 0f);
            check.brings(none, 1, state);
            check.refuses("41 both are " + state, none, ARITHMETIC, none::fullness);
        }
        CloudHall hot = BoundsOfHeatTest.hallAt(60);
        check.refuses("41 all shut down", hot, ARITHMETIC, hot::fullness);
        CloudHall warm = BoundsOfHeatTest.hallAt(59);
        check.is("41 all on", warm.fullness(), 1f);
    }

    private static void meanOfAislesThatHaveRacks() {
        CloudHall h = new CloudHall();
        check.refuses("42 no rack", h, ARITHMETIC, h::meanHeat);
        h.pass(1);
        check.refuses("42 no rack", h, ARITHMETIC, h::meanHeat);
        for (int aisle = 0; aisle < 3; aisle++) {
            CloudHall one = new CloudHall();
            one.addRack(aisle, 50);
            check.is("42 one aisle", one.meanHeat(), 20.0);
        }
        CloudHall warm = BoundsOfHeatTest.hallAt(59);
        check.is("42 one aisle, of two racks", warm.meanHeat(), 59.0);
        warm.addRack(2, 50);
        check.is("42 two aisles", warm.meanHeat(), (double) (59 + warm.heat(2)) / (double) 2);
        warm.addRack(1, 50);
        double due = (double) (59 + warm.heat(2) + warm.heat(1)) / (double) 3;
        check.is("42 three aisles, by thirds", warm.meanHeat() + " " + (due != Math.floor(due)), due + " true");
    }

    // No call leads to a hall that is not sound: so what it holds is set from outside here.

    private static Field fieldOf(Object part, String name) throws Exception {
        Field field = part.getClass().getDeclaredField(name);
        field.setAccessible(true);
        return field;
    }

    private static void set(Object part, String name, Object value) throws Exception {
        fieldOf(part, name).set(part, value);
    }

    private static Object partOf(CloudHall h, String list, int number) throws Exception {
        Object all = fieldOf(h, list).get(h);
        return all instanceof List<?> ? ((List<?>) all).get(number) : ((Object[]) all)[number];
    }

    private static void soundByCores() throws Exception {
        for (int taken = 7; taken <= 9; taken++) {
            CloudHall h = running(50, 8);
            set(partOf(h, "machines", 0), "taken", taken);
            check.is("43 " + taken + " cores taken of 8", h.isSound(), taken <= 8);
        }
    }

    private static void soundByMachinesThatAreOn() throws Exception {
        for (char state : new char[] {'+', '-', 's', 'u', 'h', 'f'}) {
            for (int cores = 0; cores <= 1; cores++) {
                CloudHall h = running(50, cores);
                set(partOf(h, "machines", 0), "state", state);
                check.is("43 " + cores + " cores taken on one that is " + state, h.isSound(), cores == 0 || state == '+');
            }
        }
    }

    private static void soundByGroups() throws Exception {
        for (int group = -1; group <= 9; group += 5) {
            for (int other = -1; other <= 9; other += 5) {
                CloudHall h = Check.hallOf(2, 2, 50);
                h.submit(0, 1, 1, 9, -1);
                h.submit(0, 1, 1, 9, -1);
                h.submit(0, 1, 1, 9, -1);
                h.pass(1);
                check.is("29 two in rack 0, one in rack 1", Check.places(h, 0) + Check.places(h, 1) + Check.places(h, 2), "012");
                set(partOf(h, "jobs", 0), "group", group);
                set(partOf(h, "jobs", 1), "group", other);
                set(partOf(h, "jobs", 2), "group", group);
                check.is("43 groups " + group + " and " + other + " in one rack", h.isSound(), group == -1 || group != other);
            }
        }
        CloudHall one = Check.hallOf(1, 2, 50);
        one.submit(0, 2, 1, 9, -1);
        one.pass(1);
        set(partOf(one, "jobs", 0), "group", 0);
        check.is("43 two parts of one job of a group in one rack", one.isSound(), false);
    }

    private static void soundByBreakers() throws Exception {
        for (int feed = 0; feed < 2; feed++) {
            for (int bears = 10; bears <= 12; bears++) {
                CloudHall h = running(50, 7);
                h.pull(0, 1 - feed, false);
                check.is("25 as it was made", h.draw(0, feed), 11);
                set(partOf(h, "racks", 0), "bears", bears);
                check.is("43 a breaker that bears " + bears + ", and 11 drawn", h.isSound(), bears >= 11);
                boolean[] isTripped = (boolean[]) fieldOf(partOf(h, "racks", 0), "isTripped").get(partOf(h, "racks", 0));
                isTripped[feed] = true;
                check.is("43 one that is out bears nothing", h.draw(0, feed) + " " + h.isSound(), "0 true");
            }
        }
    }

    private static void soundByCopies() throws Exception {
        CloudHall h = Check.hallOf(2, 2, 50);
        h.store(2, 1);
        check.is("43 in racks of their own", h.stored(0) + " " + h.stored(2) + h.isSound(), "1 1true");
        Object holder = partOf(h, "machines", 0);
        Object other = partOf(h, "machines", 2);
        Object rack = fieldOf(other, "rack").get(other);
        set(other, "rack", fieldOf(holder, "rack").get(holder));
        check.is("43 in one rack", h.isSound(), false);
        set(other, "rack", rack);
        check.is("43 apart again", h.isSound(), true);
    }

    private static void soundByQuotas() throws Exception {
        for (int tenant = 0; tenant < 4; tenant++) {
            for (int quota = 4; quota <= 6; quota++) {
                CloudHall h = usingFive(tenant);
                h.setQuota(tenant, 40);
                h.setQuota(tenant, 41);
                set(partOf(h, "tenants", tenant), "quota", quota);
                check.is("43 5 used of " + quota + ", not made less by a call", h.isSound(), quota >= 5);
                CloudHall less = usingFive(tenant);
                less.setQuota(tenant, quota);
                check.is("43 5 used of " + quota + ", made less", less.isSound(), true);
                less.setQuota(tenant, 4);
                check.is("43 5 used of 4, made less", less.isSound(), true);
            }
        }
    }

    private static CloudHall usingFive(int tenant) {
        CloudHall h = Check.hallOf(1, 1, 50);
        h.submit(tenant, 1, 5, 9, -1);
        h.pass(1);
        return h;
    }

    private static void askingChangesNothing() {
        CloudHall h = Check.hallOf(3, 2, 14);
        h.store(2, 3);
        h.store(1, 3);
        h.submit(0, 2, 3, 40, 1);
        h.submit(1, 1, 3, 40, -1);
        h.pass(1);
        h.addMachine(0, 1, 1);
        h.fail(4);
        h.repair(4);
        String before = Check.innards(h);
        for (int i = 0; i < 2; i++) {
            check.is("38 one copy", h.isSafe(), false);
            check.is("43 sound", h.isSound(), true);
            Check.snapshot(h);
            h.fullness();
            h.meanHeat();
            check.is("38 nothing changes by that", Check.innards(h), before);
        }
    }
}
