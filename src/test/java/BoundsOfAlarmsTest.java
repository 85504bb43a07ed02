import java.util.ArrayList;
import java.util.List;

/** What the Terms and promises 34 to 37 say of alarms, at each bound and on either side of it. */
public final class BoundsOfAlarmsTest {
    private static final Class<?> NO_SUCH = IndexOutOfBoundsException.class;
    private static final Check check = new Check();

    public static void main(String[] args) {
        theLast60AreKept();
        aCauseThatIsNotKept();
        aCauseOfVolumesThatIsNotKept();
        eachKindWhereItIsDue();
        breakersByTheirNumbers();
        oneCopyLeftOfMore();
        volumesByRisingNumbers();
        ofTheBreakerThatIsTrippedStill();
        noneOfABreakerThatIsIn();
        noneOfAnotherRack();
        check.end();
    }

    /** Raises one alarm, 'p', about this machine, and has it on again. */
    private static void starve(CloudHall h, int machine) {
        h.pull(machine, 0, false);
        h.pull(machine, 1, false);
        h.pull(machine, 0, true);
        h.pull(machine, 1, true);
    }

    private static void theLast60AreKept() {
        CloudHall h = Check.hallOf(2, 4, 50);
        h.addRack(0, 50);
        h.addMachine(2, 1, 1);
        List<Integer> abouts = new ArrayList<>();
        int calls = 14;
        for (int raised = 0; calls < 500; raised++) {
            askAll(h, abouts, raised);
            int machine = raised * 7 % 9;
            starve(h, machine);
            calls += 4;
            abouts.add(0, machine);
        }
        check.is("34 more than two times 60", h.alarms() > 120, true);
    }

    private static void askAll(CloudHall h, List<Integer> abouts, int raised) {
        check.is("34 raised", h.alarms(), raised);
        int kept = Math.min(60, raised);
        for (int i = 0; i < kept; i++) {
            check.is("36 alarm " + i + " of " + raised, h.alarmOf(i), abouts.get(i));
        }
        if (kept > 0) {
            check.is("35 the first and the last that are kept", h.alarm(0) + "" + h.alarm(kept - 1), "pp");
            check.is("37 came of none", h.causeOf(0) + " " + h.causeOf(kept - 1), "0 " + (kept - 1));
        }
        check.refuses("35 alarm " + kept + " of " + raised, h, NO_SUCH, () -> h.alarm(kept));
        check.refuses("36 alarmOf " + kept + " of " + raised, h, NO_SUCH, () -> h.alarmOf(kept));
        check.refuses("37 causeOf " + kept + " of " + raised, h, NO_SUCH, () -> h.causeOf(kept));
    }

    private static void aCauseThatIsNotKept() {
        CloudHall h = Check.hallOf(1, 2, 10);
        Check.kill(h, 1);
        h.addMachine(0, 1, 1);
        h.addRack(1, 50);
        h.addMachine(1, 1, 1);
        h.setMains(1, true);
        h.setBattery(0, 0);
        h.setMains(0, false);
        check.is("37 three of one breaker, and of the other none as yet", Check.alarms(h).substring(0, 4), "8 p2");
        for (int more = 1; more <= 60; more++) {
            starve(h, 3);
            checkCauses(h, 4 + more, more);
        }
    }

    /** Of the second breaker's four alarms, 'b' stands at this index less 1 and the three of it below. */
    private static void checkCauses(CloudHall h, int first, int more) {
        for (int i = first - 2; i >= first - 4 && i >= 0; i--) {
            if (i < 60) {
                boolean isKept = first - 1 < 60;
                check.is("37 alarm " + i + ", which came of " + (first - 1), h.causeOf(i), isKept ? first - 1 : i);
                check.is("35 alarm " + i + " behind " + more, h.alarm(i), 'p');
            }
        }
        check.is("35 that breaker's, if it is kept", first - 1 > 59 || h.alarm(first - 1) == 'b', true);
    }

    private static void aCauseOfVolumesThatIsNotKept() {
        CloudHall h = Check.hallOf(3, 1, 50);
        h.store(2, 1);
        h.store(1, 2);
        h.store(1, 1);
        check.is("9 as it was made", h.stored(0) + " " + h.stored(1) + " " + h.stored(2), "2 1 2");
        h.fail(0);
        check.is("37 of f", Check.alarms(h), "3 l2<2 v0<2 f0");
        for (int more = 1; more <= 59; more++) {
            starve(h, 1 + more % 2);
            int f = 2 + more;
            if (f <= 60) {
                check.is("37 v came of f at " + f, h.causeOf(f - 1), f <= 59 ? f : f - 1);
            }
            if (f - 2 <= 59) {
                check.is("37 l came of f at " + f, h.causeOf(f - 2), f <= 59 ? f : f - 2);
            }
        }
    }

    private static void eachKindWhereItIsDue() {
        CloudHall hot = BoundsOfHeatTest.hallAt(60);
        check.is("35 h, about the aisle", Check.alarms(hot), "1 h0");
        CloudHall h = Check.hallOf(2, 1, 50);
        h.turnOff(0);
        h.turnOn(0);
        h.pass(1);
        h.drain(0, true);
        h.submit(0, 1, 1, 1, -1);
        h.cancel(0);
        h.setMains(0, false);
        h.setMains(0, true);
        check.is("34 none of what is no fault", h.alarms(), 0);
        h.fail(0);
        check.is("35 f, about the machine", Check.alarms(h), "1 f0");
        h.repair(0);
        h.pass(2);
        check.is("34 none of repairs", h.alarms(), 1);
        Check.kill(h, 0);
        Check.kill(h, 1);
        check.is("35 p, about the machine that is on alone", Check.alarms(h), "2 p1 f0");
        h.pass(3);
        check.is("34 none again while it stays so", h.alarms(), 2);
    }

    private static void breakersByTheirNumbers() {
        for (int rack = 0; rack < 8; rack++) {
            for (int feed = 0; feed < 2; feed++) {
                CloudHall h = new CloudHall();
                for (int i = 0; i < 8; i++) {
                    h.addRack(i % 3, 10);
                }
                Check.kill(h, 1 - feed);
                for (int i = 0; i < 3; i++) {
                    check.is("34 none as yet", h.alarms(), 0);
                    h.addMachine(rack, 1, 1);
                }
                check.is("36 2 times the rack plus the feed", Check.alarms(h), "4 p2<3 p1<3 p0<3 b" + (2 * rack + feed));
            }
        }
    }

    private static void oneCopyLeftOfMore() {
        String[] due = {"l0", "v0 l0", "none v0 l0"};
        for (int copies = 1; copies <= 3; copies++) {
            CloudHall h = Check.hallOf(3, 1, 50);
            h.store(copies, 1);
            StringBuilder all = new StringBuilder();
            for (int i = 0; i < copies; i++) {
                int before = h.alarms();
                h.fail(i);
                all.append(i == 0 ? "" : " ").append(h.alarms() == before + 1 ? "none" : "" + h.alarm(0) + h.alarmOf(0));
                check.is("34 one more at the most", h.alarms() - before <= 2, true);
                check.is("35 behind f", h.alarm(h.alarms() - before - 1) + "" + h.alarmOf(h.alarms() - before - 1), "f" + i);
            }
            check.is("35 as copies of " + copies + " are lost", all.toString(), due[copies - 1]);
        }
        CloudHall again = Check.hallOf(4, 1, 50);
        again.store(2, 1);
        again.fail(0);
        again.pass(1);
        again.fail(1);
        check.is("35 v again, as it was made anew", Check.alarms(again), "4 v0<1 f1 v0<3 f0");
        CloudHall two = Check.hallOf(3, 1, 50);
        two.store(3, 1);
        two.fail(0);
        two.fail(1);
        check.is("35 v of three, two of them gone", Check.alarms(two), "3 v0<1 f1 f0");
    }

    private static void volumesByRisingNumbers() {
        CloudHall h = Check.hallOf(3, 1, 50);
        h.store(1, 1);
        h.store(3, 1);
        h.store(2, 1);
        h.store(2, 1);
        h.drain(1, true);
        h.drain(2, true);
        h.store(1, 1);
        check.is("9 as it was made", h.stored(0) + " " + h.stored(1) + " " + h.stored(2), "4 3 2");
        check.is("15 four copies", h.fail(0), 4);
        check.is("35 by rising volumes", Check.alarms(h), "4 l4<3 v3<3 l0<3 f0");
    }

    /** Both breakers tripped, feed 0 ahead of feed 1; then one of them is set back in, and all is off again. */
    private static CloudHall bothTripped() {
        CloudHall h = Check.hallOf(1, 3, 10);
        Check.kill(h, 1);
        h.setMains(1, true);
        check.is("34 feed 0, and then feed 1", Check.alarms(h), "8 p2<3 p1<3 p0<3 b1 p2<7 p1<7 p0<7 b0");
        h.turnOff(1);
        h.turnOff(2);
        return h;
    }

    private static void ofTheBreakerThatIsTrippedStill() {
        CloudHall first = bothTripped();
        first.resetBreaker(0, 1);
        first.pull(0, 1, false);
        check.is("37 of feed 0's, the one that is out still", Check.alarms(first).substring(0, 6), "9 p0<8");
        CloudHall second = bothTripped();
        second.resetBreaker(0, 0);
        second.pull(0, 0, false);
        check.is("37 of feed 1's, the one that is out still", Check.alarms(second).substring(0, 6), "9 p0<4");
        CloudHall both = bothTripped();
        both.addMachine(0, 1, 1);
        check.is("37 of the last of both", Check.alarms(both).substring(0, 6), "9 p3<4");
    }

    private static void noneOfABreakerThatIsIn() {
        CloudHall h = bothTripped();
        h.resetBreaker(0, 0);
        h.resetBreaker(0, 1);
        check.is("17 both are in", h.hasTripped(0, 0) || h.hasTripped(0, 1), false);
        starve(h, 0);
        check.is("37 of none", Check.alarms(h).substring(0, 5) + h.causeOf(0), "9 p0 0");
        CloudHall one = Check.hallOf(1, 1, 10);
        starve(one, 0);
        check.is("37 of none, without any", Check.alarms(one), "1 p0");
    }

    private static void noneOfAnotherRack() {
        CloudHall h = bothTripped();
        h.addRack(0, 50);
        h.addMachine(1, 1, 1);
        starve(h, 3);
        check.is("37 of none, though rack 0 has two", Check.alarms(h).substring(0, 5) + h.causeOf(0), "9 p3 0");
    }
}
