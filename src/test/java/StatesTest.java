/** Promises 10 to 17: what each call does to a machine or a job in each state that it can have. */
public final class StatesTest {
    private static final Class<?> STATE = IllegalStateException.class;
    private static final Class<?> UNSUPPORTED = UnsupportedOperationException.class;
    private static final String STATES = "+-suhf";
    private static final Check check = new Check();

    public static void main(String[] args) {
        drainUnlessFailed();
        turnOffUnlessOffOrFailed();
        turnOffIsRefusedByTheStateFirst();
        turnOnIfOffOrShutDown();
        turnOnTellsTheHour();
        pullInAnyState();
        pullWhileNoPartRuns();
        failUnlessFailed();
        repairIfFailed();
        repairOnce();
        resetBreakerOnce();
        cancelUnlessOver();
        check.end();
    }

    /** Machine 0 is in this state; machine 1 is in aisle 0 too, in another rack. */
    private static CloudHall hallWith(char state) {
        if (state == 'h') {
            CloudHall hot = BoundsOfHeatTest.hallAt(60);
            check.is("21 as it was brought", hot.stateOf(0), state);
            return hot;
        }
        CloudHall h = Check.hallOf(2, 1, 50);
        check.brings(h, 0, state);
        return h;
    }

    private static void drainUnlessFailed() {
        for (char state : STATES.toCharArray()) {
            CloudHall h = hallWith(state);
            if (state == 'f') {
                check.refuses("11 drain, failed", h, STATE, () -> h.drain(0, true));
                check.refuses("11 drain no more, failed", h, STATE, () -> h.drain(0, false));
            } else {
                check.is("11 was not drained, " + state, h.drain(0, true), 0);
                check.is("11 was drained, " + state, h.drain(0, false), 1);
                check.is("11 it is as it was", h.stateOf(0), state);
            }
        }
    }

    private static void turnOffUnlessOffOrFailed() {
        for (char state : STATES.toCharArray()) {
            CloudHall h = hallWith(state);
            if (state == '-' || state == 'f') {
                check.refuses("12 turnOff, " + state, h, STATE, () -> h.turnOff(0));
            } else {
                check.is("12 turnOff, " + state, h.turnOff(0) + "" + h.stateOf(0), "0-");
                check.refuses("12 turnOff, off by now", h, STATE, () -> h.turnOff(0));
                h.pass(1);
                check.is("12 off stays off, " + state, h.stateOf(0), '-');
            }
        }
    }

    private static void turnOffIsRefusedByTheStateFirst() {
        CloudHall h = Check.hallOf(2, 1, 50);
        h.store(2, 1);
        h.turnOff(0);
        h.fail(1);
        check.is("32 the last copy, on a machine that is off", h.copies(0) + " " + h.stored(0), "1 1");
        check.refuses("12 off, and no copy on another that is on", h, STATE, () -> h.turnOff(0));
        h.turnOn(0);
        check.refuses("12 no copy on another that is on", h, UNSUPPORTED, () -> h.turnOff(0));
    }

    private static void turnOnIfOffOrShutDown() {
        for (char state : STATES.toCharArray()) {
            CloudHall h = hallWith(state);
            if (state == '-' || state == 'h') {
                check.is("13 turnOn, " + state, h.turnOn(0), h.hour() + 1);
                check.is("13 starts", h.stateOf(0), 's');
                check.refuses("13 turnOn, starts by now", h, STATE, () -> h.turnOn(0));
                h.pass(1);
                check.is("13 on behind the next hour", h.stateOf(0), '+');
            } else {
                check.refuses("13 turnOn, " + state, h, STATE, () -> h.turnOn(0));
            }
        }
    }

    private static void turnOnTellsTheHour() {
        CloudHall h = Check.hallOf(1, 1, 50);
        for (int i = 0; i < 83; i++) {
            startForAnHour(h);
            h.pass(23);
        }
        startForAnHour(h);
        h.pass(6);
        check.is("20 the last hour but one", h.hour(), 1999);
        startForAnHour(h);
        check.is("20 the last hour", h.hour(), 2000);
    }

    private static void startForAnHour(CloudHall h) {
        h.turnOff(0);
        int due = h.turnOn(0);
        check.is("13 starts till then", h.stateOf(0) + " " + h.hour(), "s " + (due - 1));
        h.pass(1);
        check.is("13 is on then", h.stateOf(0) + " " + h.hour(), "+ " + due);
    }

    private static void pullInAnyState() {
        for (char state : STATES.toCharArray()) {
            for (int feed = 0; feed < 2; feed++) {
                CloudHall h = hallWith(state);
                h.pull(0, 0, true);
                h.pull(0, 1, true);
                check.is("14 one is out, " + state, h.pull(0, feed, false), 1);
                check.is("14 out already, " + state, h.pull(0, feed, false), 1);
                check.is("14 none is in, " + state, h.pull(0, 1 - feed, false), 0);
                check.is("14 one is in, " + state, h.pull(0, feed, true), 1);
                check.is("14 in already, " + state, h.pull(0, feed, true), 1);
                check.is("14 both are in, " + state, h.pull(0, 1 - feed, true), 2);
            }
        }
    }

    private static void pullWhileNoPartRuns() {
        for (int cores = 0; cores <= 1; cores++) {
            for (int feed = 0; feed < 2; feed++) {
                int last = feed;
                CloudHall h = Check.hallOf(1, 1, 50);
                Check.take(h, 0, cores);
                check.is("14 the first of two", h.pull(0, 1 - feed, false), 1);
                if (cores == 1) {
                    check.refuses("14 the last while one core is taken", h, UNSUPPORTED, () -> h.pull(0, last, false));
                    check.is("14 putting it in", h.pull(0, feed, true), 1);
                    check.is("14 that is out already", h.pull(0, 1 - feed, false), 1);
                    h.turnOff(0);
                }
                check.is("14 the last while no part runs", h.pull(0, feed, false), 0);
            }
        }
    }

    private static void failUnlessFailed() {
        for (char state : STATES.toCharArray()) {
            CloudHall h = hallWith(state);
            if (state == 'f') {
                check.refuses("15 fail, failed", h, STATE, () -> h.fail(0));
            } else {
                check.is("15 fail, " + state, h.fail(0) + "" + h.stateOf(0), "0f");
                check.is("35 f", h.alarm(0) + "" + h.alarmOf(0), "f0");
                check.refuses("15 fail, failed by now", h, STATE, () -> h.fail(0));
            }
        }
    }

    private static void repairIfFailed() {
        for (char state : STATES.toCharArray()) {
            CloudHall h = hallWith(state);
            if (state == 'f') {
                check.is("16 repair, failed", h.repair(0), 1);
            } else {
                check.refuses("16 repair, " + state, h, STATE, () -> h.repair(0));
            }
        }
    }

    private static void repairOnce() {
        CloudHall h = Check.hallOf(2, 1, 50);
        h.fail(0);
        h.fail(1);
        h.setCrew(0, 4);
        check.is("16 one", h.repair(1), 1);
        for (int i = 0; i < 2; i++) {
            check.refuses("16 there is a ticket for it", h, STATE, () -> h.repair(1));
            h.pass(1);
        }
        check.is("16 none for the other", h.repair(0), 2);
        h.setCrew(1, 4);
        h.pass(1);
        check.refuses("16 done", h, STATE, () -> h.repair(1));
        check.refuses("16 there is a ticket for the other", h, STATE, () -> h.repair(0));
        h.fail(1);
        check.is("16 failed anew", h.repair(1), 2);
    }

    private static void resetBreakerOnce() {
        for (int feed = 0; feed < 2; feed++) {
            int out = feed;
            CloudHall h = Check.hallOf(2, 2, 10);
            Check.kill(h, 1 - feed);
            check.refuses("17 in", h, STATE, () -> h.resetBreaker(0, out));
            h.addMachine(0, 1, 1);
            check.refuses("17 the other feed's", h, STATE, () -> h.resetBreaker(0, 1 - out));
            check.refuses("17 the other rack's", h, STATE, () -> h.resetBreaker(1, out));
            h.turnOff(0);
            check.is("17 what is drawn by it then", h.resetBreaker(0, feed), 8);
            check.refuses("17 in again", h, STATE, () -> h.resetBreaker(0, out));
        }
    }

    private static void cancelUnlessOver() {
        CloudHall h = Check.hallOf(1, 1, 50);
        h.submit(0, 1, 1, 1, -1);
        h.submit(0, 2, 1, 9, -1);
        h.submit(0, 1, 8, 9, -1);
        h.pass(2);
        check.is("28 done, runs, waits", h.jobState(0) + "" + h.jobState(1) + h.jobState(2), "drw");
        check.refuses("10 done", h, STATE, () -> h.cancel(0));
        check.is("10 parts that ran", h.cancel(1) + "" + h.jobState(1), "2c");
        check.is("10 parts that ran", h.cancel(2) + "" + h.jobState(2), "0c");
        check.refuses("10 cancelled", h, STATE, () -> h.cancel(1));
        check.refuses("10 cancelled", h, STATE, () -> h.cancel(2));
        h.pass(2);
        check.is("28 stays so", h.jobState(0) + "" + h.jobState(1) + h.jobState(2) + h.load(0), "dcc0");
    }
}
