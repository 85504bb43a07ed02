/** What the Terms say of jobs, at each bound and on either side of it. */
public final class BoundsOfJobsTest {
    private static final Check check = new Check();

    public static void main(String[] args) {
        quotaJustEnough();
        quotaBesideThoseThatRun();
        quotaOf0();
        quotaMadeLess();
        asManyFreeCores();
        rackBearsJustWhatIsDrawn();
        rackBearsWhatOthersDraw();
        onlyMachinesThatAreOn();
        groupAsManyRacksAsParts();
        groupOfAnotherJob();
        eachGroupByItself();
        onePartFindsNone();
        fewestCoresTaken();
        leastUseOfTheQuota();
        equalUseThenRisingNumbers();
        hoursToRun();
        allPartsStop();
        hoursStayWhenItStops();
        check.end();
    }

    /** A rack that bears 200, with machines of 16 cores that take a watt each; quotas of 400. */
    private static CloudHall wide(int machines) {
        CloudHall h = new CloudHall();
        for (int i = 0; i < machines; i++) {
            if (i % 4 == 0) {
                h.addRack(i / 4 % 3, 200);
            }
            h.addMachine(i / 4, 16, 1);
        }
        for (int i = 0; i < 4; i++) {
            h.setQuota(i, 400);
        }
        return h;
    }

    private static void quotaJustEnough() {
        int[][] jobs = {{1, 1}, {1, 8}, {6, 1}, {6, 8}, {3, 5}};
        for (int[] job : jobs) {
            for (int more = -1; more <= 1; more++) {
                CloudHall h = wide(4);
                h.setQuota(2, job[0] * job[1] + more);
                h.submit(2, job[0], job[1], 9, -1);
                h.pass(1);
                check.is("Jobs: " + job[0] + " parts of " + job[1] + " and a quota " + more + " more",
                        h.jobState(0) + " " + h.used(2), more < 0 ? "w 0" : "r " + job[0] * job[1]);
            }
        }
    }

    private static void quotaBesideThoseThatRun() {
        for (int more = -1; more <= 1; more++) {
            CloudHall h = wide(4);
            h.setQuota(1, 13 + more);
            h.submit(1, 2, 4, 3, -1);
            h.submit(1, 1, 5, 3, -1);
            h.submit(2, 4, 8, 3, -1);
            h.pass(1);
            check.is("Jobs: 5 beside 8, and a quota of " + (13 + more), h.jobState(0) + " " + h.jobState(1) + h.jobState(2),
                    more < 0 ? "r wr" : "r rr");
            h.pass(3);
            check.is("Jobs: as the first is done", h.jobState(0) + " " + h.jobState(1), more < 0 ? "d r" : "d d");
        }
    }

    private static void quotaOf0() {
        CloudHall h = wide(1);
        h.setQuota(0, 0);
        h.submit(0, 1, 1, 9, -1);
        h.submit(1, 1, 1, 9, -1);
        h.pass(2);
        check.is("Jobs: a quota of 0 has room for none", h.jobState(0) + " " + h.jobState(1), "w r");
        h.setQuota(0, 1);
        h.pass(1);
        check.is("Jobs: one of 1 has room for one", h.jobState(0) + " " + h.used(0), "r 1");
        h.setQuota(0, 0);
        h.submit(0, 1, 1, 9, -1);
        h.submit(1, 1, 1, 9, -1);
        h.pass(1);
        check.is("Jobs: made 0, what runs goes on, what waits stays, others are placed",
                h.jobState(0) + " " + h.jobState(2) + h.jobState(3) + h.isSound(), "r wrtrue");
    }

    private static void quotaMadeLess() {
        for (int more = -1; more <= 1; more++) {
            CloudHall h = wide(1);
            h.submit(0, 1, 5, 9, -1);
            h.pass(1);
            h.setQuota(0, 5 + more);
            h.turnOff(0);
            h.turnOn(0);
            h.pass(1);
            check.is("Jobs: stopped, and placed anew by the quota of then, " + (5 + more), h.jobState(0), more < 0 ? 'w' : 'r');
        }
    }

    private static void asManyFreeCores() {
        for (int cores = 1; cores <= 16; cores++) {
            for (int wanted = 1; wanted <= 8; wanted++) {
                CloudHall h = new CloudHall();
                h.addRack(0, 200);
                h.addMachine(0, cores, 1);
                h.submit(0, 1, wanted, 9, -1);
                h.pass(1);
                check.is("Jobs: " + wanted + " cores of " + cores, h.load(0), wanted <= cores ? wanted : 0);
            }
        }
        for (int taken = 7; taken <= 9; taken++) {
            CloudHall h = wide(1);
            Check.take(h, 0, taken);
            h.submit(0, 1, 8, 9, -1);
            h.pass(1);
            check.is("Jobs: 8 cores of 16 less " + taken, h.load(0), taken <= 8 ? taken + 8 : taken);
        }
    }

    private static void rackBearsJustWhatIsDrawn() {
        for (int bears = 10; bears <= 40; bears++) {
            for (int cores = 1; cores <= 8; cores++) {
                CloudHall h = new CloudHall();
                h.addRack(0, bears);
                h.addMachine(0, 8, 4);
                h.submit(0, 1, cores, 9, -1);
                h.pass(1);
                boolean isBorne = 4 + 4 * cores <= bears;
                check.is("Jobs: " + (4 + 4 * cores) + " of " + bears, h.load(0) + " " + h.alarms(), (isBorne ? cores : 0) + " 0");
            }
        }
    }

    /** The rack's other machine draws 4 if it is on or starts; one that is off, without power or failed does not. */
    private static void rackBearsWhatOthersDraw() {
        for (char other : new char[] {'+', 's', '-', 'u', 'f'}) {
            for (int feeds = 1; feeds <= 2; feeds++) {
                for (int cores = 5; cores <= 7; cores++) {
                    CloudHall h = new CloudHall();
                    h.addRack(0, 14);
                    h.addMachine(0, 8, 1);
                    h.addMachine(0, 1, 1);
                    check.brings(h, 1, other);
                    h.pull(0, 1, feeds == 2);
                    h.submit(0, 1, cores, 9, -1);
                    h.pass(1);
                    boolean isBorne = other == '+' || other == 's' ? cores <= 6 : true;
                    check.is("Jobs: 14 bear 4 and " + cores + " and another that is " + other + ", by " + feeds,
                            h.load(0), isBorne ? cores : 0);
                }
            }
        }
    }

    private static void onlyMachinesThatAreOn() {
        for (char state : new char[] {'+', 's', '-', 'u', 'f'}) {
            CloudHall h = wide(1);
            check.brings(h, 0, state);
            h.submit(0, 1, 1, 9, -1);
            h.pass(1);
            boolean isOn = state == '+' || state == 's';
            check.is("Jobs: placed on one that was " + state, h.jobState(0), isOn ? 'r' : 'w');
            if (isOn) {
                h.cancel(0);
                h.drain(0, true);
                h.submit(0, 1, 1, 9, -1);
                h.pass(1);
                check.is("Jobs: not if it is drained", h.jobState(1), 'w');
                h.drain(0, false);
                h.pass(1);
                check.is("Jobs: till it is not any more", h.jobState(1), 'r');
            }
        }
        CloudHall hot = BoundsOfHeatTest.hallAt(60);
        check.is("Jobs: not on one shut down", Check.states(hot) + hot.load(0) + hot.load(1), "hh00");
    }

    private static void groupAsManyRacksAsParts() {
        for (int group : new int[] {-1, 0, 1, 9}) {
            for (int parts = 1; parts <= 6; parts++) {
                CloudHall h = Check.hallOf(4, 2, 200);
                h.submit(0, parts, 1, 9, group);
                h.pass(1);
                boolean isPlaced = group == -1 || parts <= 4;
                check.is("Jobs: " + parts + " parts of group " + group + " in 4 racks", h.jobState(0), isPlaced ? 'r' : 'w');
                int most = 0;
                for (int rack = 0; rack < 4; rack++) {
                    most = Math.max(most, h.load(2 * rack) + h.load(2 * rack + 1));
                }
                check.is("Jobs: the most in one rack", most, !isPlaced ? 0 : group == -1 && parts > 1 ? 2 : 1);
            }
        }
    }

    private static void groupOfAnotherJob() {
        for (int taken = 0; taken <= 4; taken++) {
            for (int parts = 1; parts <= 4; parts++) {
                CloudHall h = Check.hallOf(4, 2, 200);
                if (taken > 0) {
                    h.submit(3, taken, 1, 9, 5);
                }
                int job = h.submit(0, parts, 1, 9, 5);
                h.pass(1);
                check.is("Jobs: " + parts + " parts of the group beside " + taken + " in 4 racks", h.jobState(job),
                        taken + parts <= 4 ? 'r' : 'w');
                if (taken > 0 && parts < 4) {
                    h.cancel(0);
                    h.pass(1);
                    check.is("Jobs: as those are over", h.jobState(job), 'r');
                }
            }
        }
    }

    private static void eachGroupByItself() {
        CloudHall h = Check.hallOf(1, 1, 200);
        for (int group = -1; group <= 9; group++) {
            h.submit(0, 1, 1, 9, group);
        }
        for (int i = 0; i < 3; i++) {
            h.cancel(i + 3);
        }
        h.submit(0, 1, 1, 9, 9);
        h.submit(0, 1, 1, 9, -1);
        h.pass(1);
        StringBuilder all = new StringBuilder();
        for (int i = 0; i < 13; i++) {
            all.append(h.jobState(i));
        }
        check.is("Jobs: 8 cores of 11 groups; a second of group 9 waits, as does the last of none",
                all.toString(), "rrrcccrrrrrww");
        h.cancel(0);
        h.pass(1);
        check.is("Jobs: with no group, a free core is enough", h.jobState(11) + " " + h.jobState(12), "w r");
    }

    private static void onePartFindsNone() {
        for (int parts = 1; parts <= 5; parts++) {
            CloudHall h = Check.hallOf(1, 3, 200);
            h.submit(0, parts, 5, 9, -1);
            h.submit(1, 3, 8, 9, -1);
            h.pass(1);
            boolean isPlaced = parts <= 3;
            check.is("Jobs: " + parts + " parts where 3 find a machine", h.jobState(0) + " " + h.used(0),
                    isPlaced ? "r " + 5 * parts : "w 0");
            check.is("Jobs: none is placed then, and nothing is taken", h.jobState(1), isPlaced ? 'w' : 'r');
        }
        CloudHall rack = Check.hallOf(1, 2, 20);
        rack.submit(0, 2, 7, 9, -1);
        rack.submit(0, 2, 6, 9, -1);
        rack.pass(1);
        check.is("Jobs: 7 and 7 beside 8 are more than 20, 6 and 6 are not", Check.places(rack, 0) + Check.places(rack, 1), "w0 1");
    }

    private static void fewestCoresTaken() {
        int[][] taken = {{2, 2, 2}, {3, 2, 2}, {3, 3, 2}, {2, 3, 2}, {1, 3, 2}, {2, 2, 1}, {4, 3, 3}, {0, 0, 0}, {1, 1, 0}};
        int[] due = {0, 1, 2, 0, 0, 2, 1, 0, 2};
        for (int i = 0; i < due.length; i++) {
            CloudHall h = wide(3);
            for (int machine = 0; machine < 3; machine++) {
                Check.take(h, machine, taken[i][machine]);
            }
            int job = h.submit(0, 1, 1, 9, -1);
            h.pass(1);
            check.is("Jobs: of " + taken[i][0] + ", " + taken[i][1] + " and " + taken[i][2], h.machineOf(job, 0), due[i]);
        }
        CloudHall h = new CloudHall();
        h.addRack(0, 200);
        h.addMachine(0, 16, 1);
        h.addMachine(0, 2, 1);
        h.addMachine(0, 8, 1);
        h.submit(0, 3, 2, 9, -1);
        h.submit(0, 1, 3, 9, -1);
        h.pass(1);
        check.is("Jobs: cores that are taken, not that are free", Check.places(h, 0) + ", " + Check.places(h, 1), "0 1 2, 0");
    }

    /** Two jobs of 8 cores want the one machine that has them; who uses less of its quota gets it. */
    private static String contest(int[] use, boolean isFirstAhead) {
        CloudHall h = wide(8);
        for (int tenant = 0; tenant < 2; tenant++) {
            for (int rest = use[2 * tenant]; rest > 0; rest -= 8) {
                h.submit(tenant, 1, Math.min(8, rest), 40, -1);
            }
        }
        h.pass(1);
        check.is("31 as it was made", h.used(0) + " " + h.used(1), use[0] + " " + use[2]);
        h.setQuota(0, use[1]);
        h.setQuota(1, use[3]);
        for (int i = 0; i < 8; i++) {
            h.drain(i, true);
        }
        h.addRack(0, 50);
        h.addMachine(2, 8, 1);
        int first = h.submit(isFirstAhead ? 0 : 1, 1, 8, 9, -1);
        int second = h.submit(isFirstAhead ? 1 : 0, 1, 8, 9, -1);
        h.pass(1);
        return h.jobState(first) + " " + h.jobState(second);
    }

    private static void leastUseOfTheQuota() {
        int[][] uses = {{1, 10, 1, 9}, {2, 21, 1, 10}, {0, 8, 1, 400}, {19, 381, 20, 400}, {3, 31, 2, 20}, {5, 51, 5, 50},
            {0, 8, 30, 300}, {30, 301, 1, 10}, {13, 39, 14, 40}};
        for (int[] use : uses) {
            String what = "Jobs: " + use[0] + "/" + use[1] + " is less than " + use[2] + "/" + use[3];
            check.is(what, contest(use, true), "r w");
            check.is(what + ", of a higher number", contest(use, false), "w r");
            int[] other = {use[2], use[3], use[0], use[1]};
            check.is(what + ", the other way", contest(other, true), "w r");
        }
    }

    private static void equalUseThenRisingNumbers() {
        int[][] uses = {{0, 40, 0, 40}, {0, 8, 0, 400}, {1, 10, 2, 20}, {20, 400, 19, 380}, {3, 30, 4, 40}, {7, 21, 8, 24}};
        for (int[] use : uses) {
            String what = "Jobs: " + use[0] + "/" + use[1] + " is " + use[2] + "/" + use[3];
            check.is(what, contest(use, true), "r w");
            check.is(what, contest(use, false), "r w");
        }
    }

    private static void hoursToRun() {
        for (int hours : new int[] {1, 2, 3, 24, 39, 40}) {
            CloudHall h = wide(1);
            h.submit(0, 1, 1, hours, -1);
            h.pass(1);
            for (int rest = hours; rest > 0; rest--) {
                check.is("Jobs: " + rest + " of " + hours, h.jobState(0) + " " + h.left(0) + " " + h.load(0), "r " + rest + " 1");
                h.pass(1);
            }
            check.is("Jobs: done if none is left of " + hours, h.jobState(0) + " " + h.left(0) + " " + h.load(0), "d 0 0");
            h.pass(1);
            check.is("Jobs: done stays done", h.jobState(0) + " " + h.left(0) + " " + h.load(0), "d 0 0");
        }
    }

    private static CloudHall three() {
        CloudHall h = Check.hallOf(3, 1, 200);
        h.submit(0, 3, 2, 9, 1);
        h.submit(1, 2, 1, 9, 2);
        h.pass(2);
        check.is("29 as it was made", Check.places(h, 0) + ", " + Check.places(h, 1), "0 1 2, 0 1");
        return h;
    }

    private static String loads(CloudHall h) {
        return h.load(0) + " " + h.load(1) + " " + h.load(2) + " " + h.jobState(0) + h.jobState(1);
    }

    private static void allPartsStop() {
        CloudHall off = three();
        check.is("12 one part on machine 2", off.turnOff(2), 1);
        check.is("Jobs: all of its job stop, others don't", loads(off), "1 1 0 wr");
        CloudHall failed = three();
        check.is("15 one part on machine 2", failed.fail(2), 1);
        check.is("Jobs: all of its job stop by failing", loads(failed), "1 1 0 wr");
        CloudHall both = three();
        check.is("12 two parts on machine 0", both.turnOff(0), 2);
        check.is("Jobs: all of both", loads(both), "0 0 0 ww");
        CloudHall tripped = new CloudHall();
        tripped.addRack(0, 10);
        tripped.addRack(1, 50);
        tripped.addMachine(0, 8, 1);
        tripped.addMachine(1, 8, 1);
        tripped.submit(0, 2, 2, 9, 1);
        tripped.pass(1);
        Check.kill(tripped, 1);
        tripped.addMachine(0, 1, 1);
        check.is("Jobs: 10 by one feed", Check.places(tripped, 0), "0 1");
        tripped.addMachine(0, 1, 1);
        check.is("Jobs: all of it stop by u", Check.places(tripped, 0) + Check.states(tripped) + tripped.load(1), "wu+uu0");
    }

    private static void hoursStayWhenItStops() {
        CloudHall h = three();
        check.is("30 8 of 9", h.left(0) + " " + h.left(1), "8 8");
        h.turnOff(2);
        h.pass(1);
        check.is("30 8 while it waits", h.left(0) + " " + h.left(1), "8 7");
        h.turnOn(2);
        h.pass(1);
        check.is("30 8 as it is placed", h.left(0) + " " + h.left(1) + h.jobState(0), "8 6r");
        h.pass(1);
        check.is("30 7 behind its next hour", h.left(0) + " " + h.left(1), "7 5");
    }
}
