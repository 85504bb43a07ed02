/** Promises 11 to 19: works and faults. */
public final class WorksTest {
    private static final Class<?> ILLEGAL = IllegalArgumentException.class;
    private static final Class<?> STATE = IllegalStateException.class;
    private static final Class<?> NO_SUCH = IndexOutOfBoundsException.class;
    private static final Class<?> UNSUPPORTED = UnsupportedOperationException.class;
    private static final Check check = new Check();

    public static void main(String[] args) {
        promise11Drain();
        promise12TurnOff();
        promise12LastCopy();
        promise13TurnOn();
        promise13NoPower();
        promise14Pull();
        promise14LastPower();
        promise15Fail();
        promise16Repair();
        promise17ResetBreaker();
        promise18SetCrew();
        promise18Spares();
        promise19Pass();
        promise19LastHour();
        check.end();
    }

    private static void promise11Drain() {
        CloudHall h = Check.hallOf(1, 2, 200);
        check.refuses("11 machine -1", h, NO_SUCH, () -> h.drain(-1, true));
        check.refuses("11 machine 2", h, NO_SUCH, () -> h.drain(2, true));
        check.is("11 was not", h.drain(0, true), 0);
        check.is("11 was", h.drain(0, true), 1);
        check.is("11 was", h.drain(0, false), 1);
        check.is("11 was not", h.drain(0, false), 0);
        h.turnOff(0);
        check.is("11 one that is off", h.drain(0, true), 0);
        h.turnOn(0);
        h.pass(1);
        check.is("11 turning off and on ends it not", h.drain(0, true), 1);
        h.fail(0);
        check.refuses("11 has failed", h, STATE, () -> h.drain(0, true));
        check.refuses("11 has failed", h, STATE, () -> h.drain(0, false));
        h.repair(0);
        h.pass(1);
        check.is("11 failing ended it", h.drain(0, true), 0);
    }

    private static void promise12TurnOff() {
        CloudHall h = Check.hallOf(2, 1, 200);
        check.refuses("12 machine -1", h, NO_SUCH, () -> h.turnOff(-1));
        check.refuses("12 machine 2", h, NO_SUCH, () -> h.turnOff(2));
        h.submit(0, 6, 1, 9, -1);
        h.submit(0, 1, 1, 9, -1);
        h.pass(1);
        check.is("12 parts on it", h.turnOff(0), 4);
        check.is("12 off, and draws nothing", Check.states(h) + h.draw(0, 0) + h.draw(0, 1), "-+00");
        check.is("12 its jobs wait", Check.places(h, 0) + Check.places(h, 1), "ww");
        check.refuses("12 is off", h, STATE, () -> h.turnOff(0));
        h.turnOn(0);
        check.is("12 one that starts", h.turnOff(0), 0);
        h.turnOn(0);
        h.pull(0, 0, false);
        h.pull(0, 1, false);
        check.is("12 one without power", Check.states(h) + h.turnOff(0) + Check.states(h), "u+0-+");
        h.pull(0, 0, true);
        check.is("12 power does not turn it on", Check.states(h), "-+");
        h.fail(0);
        check.refuses("12 has failed", h, STATE, () -> h.turnOff(0));
    }

    private static void promise12LastCopy() {
        CloudHall h = Check.hallOf(3, 1, 200);
        h.store(2, 1);
        check.is("12 stored on 0 and 1", h.stored(0) + h.stored(1), 2);
        check.is("12 another copy is on", h.turnOff(0), 0);
        check.refuses("12 none is on beside it", h, UNSUPPORTED, () -> h.turnOff(1));
        check.is("12 no copy on it", h.turnOff(2), 0);
        check.refuses("12 is off, though it has a copy", h, STATE, () -> h.turnOff(0));
        h.turnOn(0);
        check.refuses("12 the other starts only", h, UNSUPPORTED, () -> h.turnOff(1));
        h.pass(1);
        check.is("12 the other is on", h.turnOff(1), 0);
        h.turnOn(1);
        check.is("12 though it starts itself", h.turnOff(1), 0);
        h.turnOn(1);
        h.pass(1);
        h.fail(0);
        check.refuses("12 the other failed", h, UNSUPPORTED, () -> h.turnOff(1));
        h.pull(1, 0, false);
        h.pull(1, 1, false);
        check.refuses("12 also when it has no power", h, UNSUPPORTED, () -> h.turnOff(1));
        h.fail(1);
        h.repair(1);
        h.pass(1);
        h.turnOn(1);
        h.pass(1);
        check.is("12 the copy is gone", h.turnOff(1), 0);
    }

    private static void promise13TurnOn() {
        CloudHall h = Check.hallOf(1, 1, 200);
        check.refuses("13 machine -1", h, NO_SUCH, () -> h.turnOn(-1));
        check.refuses("13 machine 1", h, NO_SUCH, () -> h.turnOn(1));
        check.refuses("13 is on", h, STATE, () -> h.turnOn(0));
        h.turnOff(0);
        h.pass(3);
        check.is("13 on in hour 4", h.turnOn(0), 4);
        check.is("13 starts, and draws 4", Check.states(h) + h.draw(0, 0) + h.draw(0, 1), "s22");
        check.refuses("13 starts", h, STATE, () -> h.turnOn(0));
        h.submit(0, 1, 1, 9, -1);
        h.pass(1);
        check.is("13 on", Check.states(h) + h.hour() + Check.places(h, 0), "+40");
        h.fail(0);
        check.refuses("13 has failed", h, STATE, () -> h.turnOn(0));
        h.repair(0);
        check.refuses("13 has failed still", h, STATE, () -> h.turnOn(0));
        h.pass(1);
        check.is("13 repaired", h.turnOn(0), 6);
    }

    private static void promise13NoPower() {
        CloudHall h = Check.hallOf(1, 1, 200);
        h.turnOff(0);
        h.pull(0, 0, false);
        h.pull(0, 1, false);
        check.is("13 no alarm for one that is off", h.alarms(), 0);
        check.is("13 on in hour 1", h.turnOn(0), 1);
        check.is("13 without power at once", Check.states(h) + Check.alarms(h), "u1 p0");
        check.refuses("13 without power", h, STATE, () -> h.turnOn(0));
        h.pull(0, 1, true);
        check.is("13 on at once, though it was starting", Check.states(h), "+");
    }

    private static void promise14Pull() {
        CloudHall h = Check.hallOf(1, 2, 20);
        check.refuses("14 machine -1", h, NO_SUCH, () -> h.pull(-1, 0, true));
        check.refuses("14 machine 2, feed 2", h, NO_SUCH, () -> h.pull(2, 2, true));
        check.refuses("14 feed -1", h, ILLEGAL, () -> h.pull(0, -1, true));
        check.refuses("14 feed 2", h, ILLEGAL, () -> h.pull(0, 2, false));
        check.is("14 is in", h.pull(0, 0, true), 2);
        check.is("14 one less", h.pull(0, 0, false), 1);
        check.is("14 is out", h.pull(0, 0, false), 1);
        check.is("14 draws by the other", h.draw(0, 0) * 10 + h.draw(0, 1), 26);
        check.is("14 none", h.pull(0, 1, false), 0);
        check.is("14 without power", Check.states(h) + Check.alarms(h), "u+1 p0");
        check.is("14 one more", h.pull(0, 1, true), 1);
        check.is("14 on again", Check.states(h), "++");
        check.is("14 both", h.pull(0, 0, true), 2);
        h.submit(0, 2, 6, 9, -1);
        h.pass(1);
        check.is("14 10 each by both feeds", h.draw(0, 0) * 100 + h.draw(0, 1), 1010);
        check.is("14 15 are no more than 20", h.pull(0, 0, false) + " " + h.draw(0, 1), "1 15");
        check.is("14 20 are no more than 20", h.pull(1, 0, false) + " " + h.draw(0, 1), "1 20");
        h.fail(0);
        check.is("14 one that failed", h.pull(0, 1, false), 0);
    }

    private static void promise14LastPower() {
        CloudHall h = Check.hallOf(1, 1, 20);
        h.submit(0, 1, 4, 40, -1);
        h.pass(1);
        h.pull(0, 0, false);
        check.refuses("14 the last one", h, UNSUPPORTED, () -> h.pull(0, 1, false));
        check.refuses("14 feed 2 while parts run", h, ILLEGAL, () -> h.pull(0, 2, false));
        check.is("14 it is put in", h.pull(0, 1, true), 1);
        check.is("14 out already", h.pull(0, 0, false), 1);
        h.pull(0, 0, true);
        h.setMains(0, false);
        h.setBattery(0, 0);
        check.refuses("14 the only one that is live", h, UNSUPPORTED, () -> h.pull(0, 1, false));
        check.is("14 one that is not live", h.pull(0, 0, false), 1);
        h.pull(0, 0, true);
        h.setBattery(0, 5);
        check.is("14 the other lives by its battery", h.pull(0, 1, false), 1);
        h.pull(0, 1, true);
        h.cancel(0);
        h.setBattery(0, 0);
        h.submit(0, 1, 1, 40, -1);
        h.pass(1);
        check.refuses("14 one core is enough", h, UNSUPPORTED, () -> h.pull(0, 1, false));
        h.cancel(1);
        check.is("14 no part runs", h.pull(0, 1, false), 1);
        check.is("14 without power, though a feed is in", Check.states(h), "u");
        CloudHall trips = Check.hallOf(1, 3, 20);
        trips.submit(0, 2, 4, 9, -1);
        trips.pass(1);
        trips.pull(0, 0, false);
        trips.pull(1, 0, false);
        check.is("14 18 by feed 1", trips.draw(0, 1), 18);
        check.is("14 one more, while its other is in", trips.pull(2, 0, false), 1);
        check.is("14 20 by feed 1", trips.draw(0, 1) + " " + trips.hasTripped(0, 1), "20 false");
    }

    private static void promise15Fail() {
        CloudHall h = Check.hallOf(3, 1, 200);
        check.refuses("15 machine -1", h, NO_SUCH, () -> h.fail(-1));
        check.refuses("15 machine 3", h, NO_SUCH, () -> h.fail(3));
        h.store(3, 1);
        h.store(2, 2);
        h.store(1, 1);
        h.submit(0, 6, 1, 9, -1);
        h.submit(0, 1, 1, 9, -1);
        h.pass(1);
        check.is("15 stored", h.stored(0) * 100 + h.stored(1) * 10 + h.stored(2), 332);
        check.is("15 three parts and two copies", h.fail(0), 5);
        check.is("15 failed", Check.states(h) + h.load(0) + h.stored(0) + h.draw(0, 0), "f++000");
        check.is("15 jobs wait", Check.places(h, 0) + Check.places(h, 1), "ww");
        check.is("15 alarms", Check.alarms(h), "2 v1<1 f0");
        check.refuses("15 has failed", h, STATE, () -> h.fail(0));
        check.is("15 two copies", h.fail(1), 2);
        check.is("15 alarms by rising volumes", Check.alarms(h), "5 l1<2 v0<2 f1 v1<4 f0");
        h.pull(2, 0, false);
        h.pull(2, 1, false);
        check.is("15 one without power", h.fail(2), 2);
        check.is("15 lost", Check.alarms(h).substring(0, 14), "9 l2<2 l0<2 f2");
        check.is("15 volumes", h.isLost(0) && h.isLost(1) && h.isLost(2), true);
        CloudHall off = Check.hallOf(2, 1, 200);
        off.store(2, 1);
        off.turnOff(0);
        check.is("15 one that is off", off.fail(0), 1);
        check.is("15 one copy is left", Check.states(off) + Check.alarms(off), "f+2 v0<1 f0");
    }

    private static void promise16Repair() {
        CloudHall h = Check.hallOf(2, 2, 200);
        check.refuses("16 machine -1", h, NO_SUCH, () -> h.repair(-1));
        check.refuses("16 machine 4", h, NO_SUCH, () -> h.repair(4));
        check.refuses("16 has not failed", h, STATE, () -> h.repair(0));
        h.fail(2);
        h.fail(0);
        h.fail(1);
        check.is("16 one waits", h.repair(2), 1);
        check.refuses("16 has one", h, STATE, () -> h.repair(2));
        check.is("16 two wait", h.repair(0), 2);
        check.is("16 three wait", h.repair(1), 3);
        h.pull(2, 0, false);
        h.pull(2, 1, false);
        h.pass(1);
        check.is("16 in the order in which they were written", Check.states(h) + h.tickets(), "ff-+2");
        check.is("16 feed 0 is in", h.pull(2, 1, true), 2);
        check.refuses("16 is repaired", h, STATE, () -> h.repair(2));
        h.pull(0, 1, false);
        h.pass(1);
        check.is("16 the next", Check.states(h) + h.tickets(), "-f-+1");
        check.is("16 feed 1 is in", h.pull(0, 0, true), 2);
        h.fail(2);
        check.is("16 failed again", h.repair(2), 2);
        h.pass(2);
        check.is("16 all", Check.states(h) + h.tickets(), "---+0");
        check.is("16 four spares are used up", h.setCrew(1, 0), 0);
    }

    private static void promise17ResetBreaker() {
        CloudHall h = Check.hallOf(1, 2, 10);
        check.refuses("17 rack -1", h, NO_SUCH, () -> h.resetBreaker(-1, 0));
        check.refuses("17 rack 1, feed 2", h, NO_SUCH, () -> h.resetBreaker(1, 2));
        check.refuses("17 feed -1", h, ILLEGAL, () -> h.resetBreaker(0, -1));
        check.refuses("17 feed 2", h, ILLEGAL, () -> h.resetBreaker(0, 2));
        check.refuses("17 has not tripped", h, STATE, () -> h.resetBreaker(0, 1));
        h.addMachine(0, 8, 1);
        h.pull(0, 1, false);
        h.pull(1, 1, false);
        h.pull(2, 1, false);
        check.is("17 12 are more than 10", h.hasTripped(0, 0) + Check.states(h) + Check.alarms(h), "trueuuu4 p2<3 p1<3 p0<3 b0");
        check.is("17 trips again", h.resetBreaker(0, 0), 0);
        check.is("17 has", h.hasTripped(0, 0) + Check.states(h), "trueuuu");
        check.is("17 alarms again", h.alarms() + " " + h.causeOf(0) + h.causeOf(3) + h.causeOf(4), "8 337");
        h.turnOff(2);
        check.is("17 stays in", h.resetBreaker(0, 0), 8);
        check.is("17 power again", h.hasTripped(0, 0) + Check.states(h), "false++-");
        check.refuses("17 is in", h, STATE, () -> h.resetBreaker(0, 0));
    }

    private static void promise18SetCrew() {
        CloudHall h = Check.hallOf(2, 3, 200);
        int[][] wrong = {{-1, 0}, {6, 0}, {0, -1}, {0, 51}};
        for (int[] w : wrong) {
            check.refuses("18 setCrew " + w[0] + " " + w[1], h, ILLEGAL, () -> h.setCrew(w[0], w[1]));
        }
        check.is("18 4 at first", h.setCrew(5, 50), 4);
        check.is("18 before", h.setCrew(0, 0), 50);
        check.is("18 before", h.setCrew(5, 6), 0);
        for (int i = 0; i < 6; i++) {
            h.fail(i);
            h.repair(i);
        }
        h.pass(1);
        check.is("18 five in an hour", Check.states(h) + h.tickets(), "-----f1");
        check.is("18 five used up", h.setCrew(0, 1), 1);
        h.pass(2);
        check.is("18 no crew", Check.states(h) + h.tickets(), "-----f1");
        check.is("18 none used up", h.setCrew(2, 1), 1);
        h.pass(1);
        check.is("18 done", Check.states(h) + h.tickets(), "------0");
    }

    private static void promise18Spares() {
        CloudHall h = Check.hallOf(1, 4, 200);
        h.setCrew(3, 2);
        for (int i = 3; i >= 0; i--) {
            h.fail(i);
            h.repair(i);
        }
        h.pass(2);
        check.is("18 as many as there are spares", Check.states(h) + h.tickets(), "ff--2");
        check.is("18 none is left", h.setCrew(3, 1), 0);
        h.pass(1);
        check.is("18 the next that waited", Check.states(h) + h.tickets(), "f---1");
    }

    private static void promise19Pass() {
        CloudHall h = new CloudHall();
        check.refuses("19 hours -1", h, ILLEGAL, () -> h.pass(-1));
        check.refuses("19 hours 0", h, ILLEGAL, () -> h.pass(0));
        check.refuses("19 hours 25", h, ILLEGAL, () -> h.pass(25));
        check.refuses("19 very many hours", h, ILLEGAL, () -> h.pass(Integer.MAX_VALUE));
        check.is("19 one", h.pass(1), 1);
        check.is("19 24", h.pass(24), 25);
        check.is("20 hour", h.hour(), 25);
    }

    private static void promise19LastHour() {
        CloudHall h = new CloudHall();
        for (int i = 0; i < 83; i++) {
            h.pass(24);
        }
        check.refuses("19 hour 2016", h, STATE, () -> h.pass(24));
        check.is("19 hour 1999", h.pass(7), 1999);
        check.refuses("19 hour 2001", h, STATE, () -> h.pass(2));
        check.is("19 hour 2000", h.pass(1), 2000);
        check.refuses("19 hour 2001", h, STATE, () -> h.pass(1));
        check.refuses("19 hours 25", h, ILLEGAL, () -> h.pass(25));
    }
}
