import java.util.NoSuchElementException;

/** Promises 7, 8, 10 and 28 to 31, and what the Terms say of jobs. */
public final class JobsTest {
    private static final Class<?> ILLEGAL = IllegalArgumentException.class;
    private static final Class<?> STATE = IllegalStateException.class;
    private static final Class<?> NO_SUCH = IndexOutOfBoundsException.class;
    private static final Check check = new Check();

    public static void main(String[] args) {
        promise7SetQuota();
        promise8Submit();
        promise10Cancel();
        promise28JobState();
        promise29MachineOf();
        promise30Left();
        promise31Used();
        placedOnFewestCoresTaken();
        placedWhereFreeAndNotDrained();
        placedByBreakers();
        placedWholeOrNot();
        groupsInRacksOfTheirOwn();
        orderByUseOfQuotas();
        goneThroughAnew();
        stoppedAsAWhole();
        check.end();
    }

    private static void promise7SetQuota() {
        CloudHall h = Check.hallOf(1, 4, 200);
        int[][] wrong = {{-1, 0}, {4, 0}, {0, -1}, {3, 401}};
        for (int[] w : wrong) {
            check.refuses("7 setQuota " + w[0] + " " + w[1], h, ILLEGAL, () -> h.setQuota(w[0], w[1]));
        }
        check.is("7 40 at first", h.setQuota(0, 400), 40);
        check.is("7 before", h.setQuota(0, 5), 400);
        check.is("7 another tenant", h.setQuota(3, 0), 40);
        h.submit(0, 2, 3, 9, -1);
        h.submit(3, 1, 1, 9, -1);
        h.pass(1);
        check.is("7 6 cores are more than 5", Check.places(h, 0), "w");
        check.is("7 1 core is more than 0", Check.places(h, 1), "w");
        check.is("7 before", h.setQuota(0, 6), 5);
        check.is("7 before", h.setQuota(3, 1), 0);
        h.pass(1);
        check.is("7 6 cores are 6", Check.places(h, 0), "0 1");
        check.is("7 1 core is 1", Check.places(h, 1), "2");
        h.setQuota(0, 2);
        h.pass(1);
        check.is("7 what runs goes on", Check.places(h, 0), "0 1");
        check.is("7 sound, since it was made less", h.isSound(), true);
        h.submit(0, 1, 1, 9, -1);
        h.setQuota(0, 6);
        h.pass(1);
        check.is("7 beside those that run", Check.places(h, 2), "w");
        h.setQuota(0, 7);
        h.pass(1);
        check.is("7 beside those that run", Check.places(h, 2), "3");
        CloudHall both = Check.hallOf(1, 4, 200);
        both.setQuota(1, 10);
        both.submit(1, 1, 6, 9, -1);
        both.submit(1, 1, 6, 9, -1);
        both.submit(1, 2, 2, 9, -1);
        both.pass(1);
        check.is("7 beside those just placed", Check.places(both, 0) + Check.places(both, 1) + Check.places(both, 2), "0w1 2");
    }

    private static void promise8Submit() {
        CloudHall h = Check.hallOf(1, 1, 200);
        int[][] wrong = {{-1, 1, 1, 1, 0}, {4, 1, 1, 1, 0}, {0, 0, 1, 1, 0}, {0, 7, 1, 1, 0}, {0, 1, 0, 1, 0},
            {0, 1, 9, 1, 0}, {0, 1, 1, 0, 0}, {0, 1, 1, 41, 0}, {0, 1, 1, 1, -2}, {0, 1, 1, 1, 10}};
        for (int[] w : wrong) {
            check.refuses("8 submit", h, ILLEGAL, () -> h.submit(w[0], w[1], w[2], w[3], w[4]));
        }
        check.is("8 number", h.submit(0, 1, 1, 1, -1), 0);
        check.is("8 number", h.submit(3, 6, 8, 40, 9), 1);
        check.is("8 waits", Check.places(h, 0), "w");
        for (int i = 2; i < 40; i++) {
            check.is("8 number", h.submit(i % 4, 1, 8, 1, i % 10), i);
        }
        check.refuses("8 the 41st", h, STATE, () -> h.submit(0, 1, 1, 1, -1));
        check.refuses("8 the 41st, out of range", h, ILLEGAL, () -> h.submit(0, 1, 1, 1, 10));
        h.pass(1);
        check.is("8 placed as the hour ends", Check.places(h, 0), "0");
        check.is("8 with all its hours", h.left(0), 1);
        check.is("8 owes nothing as yet", h.bill(0), 0L);
        h.pass(1);
        check.is("8 done", Check.places(h, 0), "d");
        check.is("8 owes an hour", h.bill(0), 1L);
        check.refuses("8 there were 40, though one is over", h, STATE, () -> h.submit(0, 1, 1, 1, -1));
    }

    private static void promise10Cancel() {
        CloudHall h = Check.hallOf(2, 1, 200);
        check.refuses("10 no job", h, NO_SUCH, () -> h.cancel(0));
        h.submit(0, 3, 2, 2, -1);
        h.submit(0, 1, 2, 9, -1);
        check.refuses("10 job -1", h, NO_SUCH, () -> h.cancel(-1));
        check.refuses("10 job 2", h, NO_SUCH, () -> h.cancel(2));
        check.is("10 one that waits", h.cancel(1), 0);
        check.is("10 cancelled", h.jobState(1), 'c');
        check.refuses("10 is over", h, STATE, () -> h.cancel(1));
        h.pass(1);
        check.is("10 not placed any more", h.jobState(1), 'c');
        check.is("10 placed", Check.places(h, 0) + " " + h.load(0) + h.load(1), "0 1 0 42");
        check.is("10 one that runs", h.cancel(0), 3);
        check.is("10 its cores are free", h.load(0) + h.load(1) + h.used(0), 0);
        check.is("10 it draws no more", h.draw(0, 0) + h.draw(0, 1), 4);
        check.is("10 its tenant owes nothing", h.bill(0), 0L);
        h.submit(0, 1, 2, 1, -1);
        h.pass(2);
        check.refuses("10 is done", h, STATE, () -> h.cancel(2));
    }

    private static void promise28JobState() {
        CloudHall h = Check.hallOf(1, 1, 200);
        check.refuses("28 no job", h, NO_SUCH, () -> h.jobState(0));
        h.submit(0, 1, 1, 1, -1);
        h.submit(0, 1, 1, 1, -1);
        check.refuses("28 job -1", h, NO_SUCH, () -> h.jobState(-1));
        check.refuses("28 job 2", h, NO_SUCH, () -> h.jobState(2));
        check.is("28 waits", h.jobState(0), 'w');
        h.cancel(1);
        check.is("28 cancelled", h.jobState(1), 'c');
        h.pass(1);
        check.is("28 runs", h.jobState(0), 'r');
        h.pass(1);
        check.is("28 done", h.jobState(0), 'd');
    }

    private static void promise29MachineOf() {
        CloudHall h = Check.hallOf(2, 1, 200);
        check.refuses("29 no job", h, NO_SUCH, () -> h.machineOf(0, 0));
        h.submit(0, 2, 5, 1, -1);
        check.refuses("29 does not run", h, NoSuchElementException.class, () -> h.machineOf(0, 1));
        check.refuses("29 no part 2", h, NO_SUCH, () -> h.machineOf(0, 2));
        check.refuses("29 no part -1", h, NO_SUCH, () -> h.machineOf(0, -1));
        check.refuses("29 no job -1", h, NO_SUCH, () -> h.machineOf(-1, 0));
        h.pass(1);
        check.is("29 part 0", h.machineOf(0, 0), 0);
        check.is("29 part 1", h.machineOf(0, 1), 1);
        check.refuses("29 no part 2", h, NO_SUCH, () -> h.machineOf(0, 2));
        h.pass(1);
        check.refuses("29 is done", h, NoSuchElementException.class, () -> h.machineOf(0, 0));
    }

    private static void promise30Left() {
        CloudHall h = Check.hallOf(1, 1, 200);
        check.refuses("30 no job", h, NO_SUCH, () -> h.left(0));
        h.submit(0, 1, 1, 3, -1);
        check.refuses("30 job -1", h, NO_SUCH, () -> h.left(-1));
        check.refuses("30 job 1", h, NO_SUCH, () -> h.left(1));
        check.is("30 all", h.left(0), 3);
        h.pass(1);
        check.is("30 placed behind the hour's work", h.left(0), 3);
        h.pass(1);
        check.is("30 one less", h.left(0), 2);
        h.turnOff(0);
        check.is("30 stays when it stops", h.left(0) + Check.places(h, 0), "2w");
        h.pass(2);
        check.is("30 stays while it waits", h.left(0), 2);
        h.turnOn(0);
        h.pass(1);
        check.is("30 goes on", h.left(0) + Check.places(h, 0), "20");
        h.pass(2);
        check.is("30 none", h.left(0) + Check.places(h, 0), "0d");
        h.submit(0, 1, 1, 5, -1);
        h.pass(3);
        h.cancel(1);
        check.is("30 stays when it is cancelled", h.left(1), 3);
    }

    private static void promise31Used() {
        CloudHall h = Check.hallOf(2, 3, 200);
        check.refuses("31 tenant -1", h, ILLEGAL, () -> h.used(-1));
        check.refuses("31 tenant 4", h, ILLEGAL, () -> h.used(4));
        h.submit(1, 3, 2, 1, -1);
        h.submit(1, 1, 8, 2, -1);
        h.submit(3, 1, 1, 2, -1);
        check.is("31 those that wait use none", h.used(1), 0);
        h.pass(1);
        check.is("31 those that run", h.used(1), 14);
        check.is("31 another tenant", h.used(3), 1);
        check.is("31 none", h.used(0), 0);
        h.pass(1);
        check.is("31 one is done", h.used(1), 8);
    }

    private static void placedOnFewestCoresTaken() {
        CloudHall h = Check.hallOf(2, 2, 200);
        h.submit(0, 6, 2, 9, -1);
        h.pass(1);
        check.is("8 fewest cores taken, then the lowest", Check.places(h, 0), "0 1 2 3 0 1");
        h.submit(0, 3, 1, 9, -1);
        h.pass(1);
        check.is("8 fewest cores taken, then the lowest", Check.places(h, 1), "2 3 2");
    }

    private static void placedWhereFreeAndNotDrained() {
        CloudHall h = new CloudHall();
        h.addRack(0, 200);
        h.addMachine(0, 1, 1);
        h.addMachine(0, 4, 1);
        h.addMachine(0, 4, 1);
        h.drain(1, true);
        h.submit(0, 1, 4, 9, -1);
        h.submit(0, 1, 4, 9, -1);
        h.pass(1);
        check.is("8 as many free cores as it wants", Check.places(h, 0), "2");
        check.is("8 not where it is drained", Check.places(h, 1), "w");
        h.drain(1, false);
        h.turnOff(1);
        h.pass(1);
        check.is("8 not where it is off", Check.places(h, 1), "w");
        h.turnOn(1);
        h.pass(1);
        check.is("8 on behind the hour that lets it start", Check.places(h, 1), "1");
        h.drain(1, true);
        h.pass(1);
        check.is("8 draining stops no part", Check.places(h, 1), "1");
    }

    private static void placedByBreakers() {
        CloudHall h = new CloudHall();
        h.addRack(0, 30);
        h.addMachine(0, 16, 3);
        h.addMachine(0, 16, 2);
        h.submit(0, 1, 8, 9, -1);
        h.pass(1);
        check.is("8 24 watts more than 8 are too many, 16 are not", Check.places(h, 0), "1");
        h.submit(0, 2, 2, 9, -1);
        h.submit(0, 1, 2, 9, -1);
        h.pass(1);
        check.is("8 the second part is too much, by both feeds together", Check.places(h, 1), "w");
        check.is("8 6 watts make 30", Check.places(h, 2), "0");
        check.is("8 no breaker trips", h.hasTripped(0, 0) || h.hasTripped(0, 1), false);
        for (int feed = 0; feed < 2; feed++) {
            CloudHall half = Check.hallOf(1, 1, 12);
            half.setMains(feed, false);
            half.setBattery(feed, 0);
            half.submit(0, 1, 8, 9, -1);
            half.pass(1);
            check.is("8 one live feed is enough", Check.places(half, 0) + half.draw(0, 1 - feed), "012");
        }
        CloudHall off = new CloudHall();
        off.addRack(0, 20);
        off.addMachine(0, 8, 1);
        off.addMachine(0, 8, 1);
        off.turnOff(1);
        off.submit(0, 2, 8, 9, -1);
        off.pass(1);
        check.is("8 both parts on one machine have no room", Check.places(off, 0), "w");
        off.submit(0, 1, 8, 9, -1);
        off.turnOn(1);
        off.pass(1);
        check.is("8 the first part makes 16", Check.places(off, 0) + Check.places(off, 1), "w0");
    }

    private static void placedWholeOrNot() {
        CloudHall h = Check.hallOf(1, 2, 200);
        h.submit(0, 3, 5, 9, -1);
        h.submit(0, 2, 8, 9, -1);
        h.pass(1);
        check.is("8 two parts of three find a machine", Check.places(h, 0), "w");
        check.is("8 these take nothing then", Check.places(h, 1), "0 1");
        check.is("8 load", h.load(0) * 10 + h.load(1), 88);
    }

    private static void groupsInRacksOfTheirOwn() {
        CloudHall h = Check.hallOf(3, 2, 200);
        h.submit(0, 2, 1, 9, 4);
        h.submit(1, 1, 1, 9, 4);
        h.submit(1, 1, 1, 9, 4);
        h.submit(0, 3, 1, 9, 0);
        h.submit(0, 2, 1, 9, -1);
        h.submit(0, 4, 1, 1, 5);
        h.pass(1);
        check.is("8 parts of one job apart", Check.places(h, 0), "0 2");
        check.is("8 and those of another job, of whatever tenant", Check.places(h, 1), "4");
        check.is("8 no rack is left", Check.places(h, 2), "w");
        check.is("8 another group", Check.places(h, 3), "1 3 5");
        check.is("8 no group", Check.places(h, 4), "0 1");
        check.is("8 four parts, three racks", Check.places(h, 5), "w");
        h.cancel(0);
        h.pass(1);
        check.is("8 a rack of one that is over", Check.places(h, 2), "2");
        check.is("8 groups are apart", h.isSound(), true);
        CloudHall one = Check.hallOf(1, 2, 200);
        one.submit(0, 2, 1, 9, 0);
        one.submit(0, 2, 1, 9, 1);
        one.submit(0, 2, 1, 9, -1);
        one.pass(1);
        check.is("8 groups from 0, -1 is none", Check.places(one, 0) + Check.places(one, 1) + Check.places(one, 2), "ww0 1");
    }

    private static void orderByUseOfQuotas() {
        CloudHall h = new CloudHall();
        h.addRack(0, 200);
        h.addMachine(0, 12, 1);
        h.setQuota(0, 30);
        h.setQuota(1, 10);
        h.setQuota(2, 20);
        h.submit(0, 1, 3, 40, -1);
        h.submit(1, 1, 1, 40, -1);
        h.submit(2, 1, 2, 40, -1);
        h.pass(1);
        check.is("8 all use a tenth", h.used(0) * 100 + h.used(1) * 10 + h.used(2), 312);
        h.submit(2, 1, 4, 1, -1);
        h.submit(1, 1, 4, 1, -1);
        h.pass(1);
        check.is("8 equal fractions, the lower number first", Check.places(h, 3) + Check.places(h, 4), "0w");
        h.pass(1);
        check.is("8 then the other", Check.places(h, 3) + Check.places(h, 4), "d0");
        h.pass(1);
        h.setQuota(2, 19);
        h.submit(2, 1, 4, 1, -1);
        h.submit(1, 1, 4, 1, -1);
        h.submit(3, 1, 4, 1, -1);
        h.pass(1);
        check.is("8 none used goes first", Check.places(h, 5) + Check.places(h, 6) + Check.places(h, 7), "ww0");
        h.pass(1);
        check.is("8 1/10 goes ahead of 2/19", Check.places(h, 5) + Check.places(h, 6) + Check.places(h, 7), "w0d");
        h.pass(1);
        check.is("8 the last", Check.places(h, 5) + Check.places(h, 6) + Check.places(h, 7), "0dd");
        CloudHall zero = new CloudHall();
        zero.addRack(0, 200);
        zero.addMachine(0, 4, 1);
        zero.submit(0, 1, 4, 9, -1);
        zero.submit(1, 1, 4, 9, -1);
        zero.setQuota(0, 0);
        zero.pass(1);
        check.is("8 a quota of 0 goes last, and has none", Check.places(zero, 0) + Check.places(zero, 1), "w0");
    }

    private static void goneThroughAnew() {
        CloudHall h = new CloudHall();
        h.addRack(0, 200);
        h.addMachine(0, 8, 1);
        h.submit(0, 1, 2, 9, -1);
        h.submit(0, 1, 2, 9, -1);
        h.submit(1, 1, 2, 9, -1);
        h.submit(1, 1, 2, 9, -1);
        h.submit(0, 1, 2, 9, -1);
        h.submit(1, 1, 2, 9, -1);
        h.pass(1);
        StringBuilder all = new StringBuilder();
        for (int i = 0; i < 6; i++) {
            all.append(Check.places(h, i));
        }
        check.is("8 by what is used behind each", all.toString(), "0000ww");
        CloudHall apart = new CloudHall();
        apart.addRack(0, 200);
        apart.addMachine(0, 6, 1);
        apart.submit(0, 1, 3, 9, -1);
        apart.submit(0, 1, 3, 9, -1);
        apart.submit(1, 1, 3, 9, -1);
        apart.pass(1);
        check.is("8 tenant 1 has used less behind the first",
                Check.places(apart, 0) + Check.places(apart, 1) + Check.places(apart, 2), "0w0");
    }

    private static void stoppedAsAWhole() {
        CloudHall h = Check.hallOf(3, 1, 200);
        h.submit(0, 3, 2, 9, 1);
        h.submit(1, 1, 1, 9, -1);
        h.pass(2);
        check.is("8 both run", Check.places(h, 0) + Check.places(h, 1), "0 1 20");
        check.is("12 one part on it", h.turnOff(1), 1);
        check.is("12 all parts of its job stop", h.load(0) * 100 + h.load(1) * 10 + h.load(2), 100);
        check.is("12 the job waits", h.jobState(0) + " " + h.left(0) + " " + h.used(0), "w 8 0");
        check.is("12 the other runs", Check.places(h, 1), "0");
        h.turnOn(1);
        h.pass(1);
        check.is("12 placed anew", Check.places(h, 0), "1 2 0");
        h.fail(0);
        check.is("15 stopped by failing", Check.places(h, 0) + Check.places(h, 1), "ww");
        check.is("15 none is taken", h.load(0) + h.load(1) + h.load(2) + h.used(0) + h.used(1), 0);
    }
}
