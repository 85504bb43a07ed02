/** What the Terms say of heat, at each bound and on either side of it. */
public final class BoundsOfHeatTest {
    private static final int DRAWN = 148;
    private static final Check check = new Check();

    public static void main(String[] args) {
        aTenthCutTowards0();
        aTenthOfWhatIsLessCutTowards0();
        aQuarterCutTowards0();
        aQuarterOfWhatIsLessCutTowards0();
        aQuarterOfTheSum();
        bothDividedByThemselves();
        onlyAislesNextToIt();
        byTheHeatsAheadOfThis();
        neverLessThan20();
        whatAllRacksDraw();
        shutDownAt60();
        shutDownOnlyOnes();
        onAgainAt40();
        onAgainOnlyOnes();
        betweenThemNothingChanges();
        aHotAisleShutsDownWhatComesOn();
        eachAisleByItself();
        check.end();
    }

    /** A rack in each aisle that draws 148, all at 20; then an hour that makes them these much more. */
    private static CloudHall warm(int more0, int more1, int more2) {
        CloudHall h = new CloudHall();
        for (int i = 0; i < 3; i++) {
            h.addRack(i, 200);
            h.addMachine(i, 16, 9);
            h.setCooling(i, 300);
        }
        for (int i = 0; i < 3; i++) {
            Check.take(h, i, 16);
        }
        step(h, DRAWN - 10 * more0, DRAWN - 10 * more1, DRAWN - 10 * more2);
        check.is("Heat: as it was made", heats(h), (20 + more0) + " " + (20 + more1) + " " + (20 + more2));
        return h;
    }

    private static void step(CloudHall h, int... coolings) {
        for (int i = 0; i < 3; i++) {
            h.setCooling(i, coolings[i]);
        }
        h.pass(1);
    }

    private static String heats(CloudHall h) {
        return h.heat(0) + " " + h.heat(1) + " " + h.heat(2);
    }

    private static void aTenthCutTowards0() {
        int[] more = {0, 1, 9, 10, 11, 19, 20, 21, 99, 100, 147, 148};
        int[] due = {20, 20, 20, 21, 21, 21, 22, 22, 29, 30, 34, 34};
        for (int i = 0; i < more.length; i++) {
            CloudHall h = warm(0, 0, 0);
            step(h, DRAWN - more[i], DRAWN, DRAWN);
            check.is("Heat: " + more[i] + " more drawn than cooled", h.heat(0), due[i]);
        }
    }

    private static void aTenthOfWhatIsLessCutTowards0() {
        int[] less = {0, 1, 9, 10, 11, 19, 20, 21, 59, 60, 69, 70};
        int[] due = {33, 33, 33, 32, 32, 32, 31, 31, 28, 27, 27, 26};
        for (int i = 0; i < less.length; i++) {
            CloudHall h = warm(13, 13, 13);
            step(h, DRAWN + less[i], DRAWN, DRAWN);
            check.is("Heat: " + less[i] + " less drawn than cooled", h.heat(0), due[i]);
        }
    }

    private static void aQuarterCutTowards0() {
        int[] due = {20, 20, 20, 20, 21, 21, 21, 21, 22, 22, 22, 22, 23, 23, 23};
        for (int more = 0; more <= 14; more++) {
            CloudHall h = warm(0, more, 0);
            step(h, DRAWN, DRAWN, DRAWN);
            check.is("Heat: the next aisle, 1 more, has " + more + " more", h.heat(0), due[more]);
            check.is("Heat: the next aisle, 1 less, has " + more + " more", h.heat(2), due[more]);
        }
    }

    private static void aQuarterOfWhatIsLessCutTowards0() {
        int[] fall = {0, 0, 0, 0, 1, 1, 1, 1, 2, 2, 2, 2, 3, 3, 3};
        for (int less = 0; less <= 14; less++) {
            CloudHall h = warm(less, 0, less);
            step(h, DRAWN, DRAWN, DRAWN);
            check.is("Heat: the next aisle has " + less + " less", h.heat(0), 20 + less - fall[less]);
            check.is("Heat: the next aisle has " + less + " less", h.heat(2), 20 + less - fall[less]);
        }
    }

    private static void aQuarterOfTheSum() {
        int[][] more = {{3, 0, 1}, {2, 0, 1}, {3, 0, 2}, {5, 1, 0}, {6, 1, 0}, {0, 2, 0}, {0, 1, 0}, {1, 2, 1}, {0, 2, 1},
            {1, 2, 0}, {7, 0, 0}, {8, 0, 0}, {7, 0, 1}, {14, 0, 14}, {0, 14, 0}};
        int[] due = {21, 20, 21, 21, 22, 21, 21, 22, 22, 22, 21, 22, 22, 27, 27};
        for (int i = 0; i < more.length; i++) {
            CloudHall h = warm(more[i][0], more[i][1], more[i][2]);
            step(h, DRAWN, DRAWN, DRAWN);
            check.is("Heat: a quarter of the sum of " + more[i][0] + " and " + more[i][2] + ", from " + more[i][1],
                    h.heat(1), due[i]);
        }
    }

    private static void bothDividedByThemselves() {
        int[][] runs = {{9, 3, 20}, {10, 3, 21}, {9, 4, 21}, {10, 4, 22}, {-9, 4, 21}, {-10, 4, 20}, {-10, 8, 21},
            {19, 7, 22}, {-19, 7, 20}, {-19, 12, 22}};
        for (int[] run : runs) {
            CloudHall h = warm(0, run[1], 0);
            step(h, DRAWN - run[0], DRAWN, DRAWN);
            check.is("Heat: " + run[0] + " / 10 plus " + run[1] + " / 4", h.heat(0), run[2]);
        }
        CloudHall less = warm(7, 0, 0);
        step(less, DRAWN - 19, DRAWN, DRAWN);
        check.is("Heat: 19 / 10 plus -7 / 4", less.heat(0), 27 + 1 - 1);
    }

    private static void onlyAislesNextToIt() {
        CloudHall h = warm(0, 0, 12);
        step(h, DRAWN, 300, DRAWN);
        check.is("Heat: aisle 2 is not next to aisle 0", heats(h), "20 20 29");
        CloudHall other = warm(12, 0, 0);
        step(other, DRAWN, 300, DRAWN);
        check.is("Heat: nor aisle 0 to aisle 2", heats(other), "29 20 20");
    }

    private static void byTheHeatsAheadOfThis() {
        CloudHall h = warm(8, 0, 0);
        step(h, DRAWN, DRAWN, DRAWN);
        check.is("Heat: 2 less, 2 more, and nothing as yet", heats(h), "26 22 20");
        step(h, DRAWN, DRAWN, DRAWN);
        check.is("Heat: -4 / 4, (4 - 2) / 4, 2 / 4", heats(h), "25 22 20");
        CloudHall up = warm(0, 0, 8);
        step(up, DRAWN, DRAWN, DRAWN);
        check.is("Heat: the other way", heats(up), "20 22 26");
    }

    private static void neverLessThan20() {
        int[] coolings = {208, 217, 218, 227, 228, 237, 238, 300};
        int[] due = {22, 22, 21, 21, 20, 20, 20, 20};
        for (int i = 0; i < coolings.length; i++) {
            CloudHall h = warm(10, 0, 0);
            step(h, coolings[i], DRAWN, DRAWN);
            check.is("Heat: 30, less 2, less " + (coolings[i] - DRAWN) + " / 10", h.heat(0), due[i]);
            step(h, DRAWN, DRAWN, DRAWN);
            check.is("Heat: no debt of heat behind that", h.heat(0) >= 20, true);
        }
        CloudHall cold = warm(0, 0, 0);
        step(cold, 300, 300, 300);
        step(cold, DRAWN - 10, DRAWN - 10, DRAWN - 10);
        check.is("Heat: from 20, not from less", heats(cold), "21 21 21");
    }

    private static void whatAllRacksDraw() {
        CloudHall h = new CloudHall();
        for (int i = 0; i < 3; i++) {
            h.addRack(i == 2 ? 2 : 0, 200);
            h.addMachine(i, 1, 1);
            h.addMachine(i, 1, 1);
        }
        h.pull(0, 0, false);
        h.pull(1, 1, false);
        h.turnOff(3);
        h.turnOn(3);
        step(h, 7, 60, 60);
        check.is("Heat: 16 by both feeds of both racks, less 7, are no tenth", heats(h), "20 20 20");
        step(h, 6, 60, 60);
        check.is("Heat: less 6, they are one", heats(h), "21 20 20");
    }

    /** Two racks in aisle 0 that drew 148 each till it came to this heat, in the hour before from less than 60. */
    static CloudHall hallAt(int heat) {
        CloudHall h = new CloudHall();
        for (int i = 0; i < 2; i++) {
            h.addRack(0, 200);
            h.addMachine(i, 16, 9);
        }
        h.setCooling(0, 300);
        Check.take(h, 0, 16);
        Check.take(h, 1, 16);
        comeTo(h, heat);
        return h;
    }

    /** Sets the cooling of aisle 0 hour by hour so that it comes to this heat. */
    private static void comeTo(CloudHall h, int heat) {
        for (int i = 0; i < 20 && h.heat(0) != heat; i++) {
            int drawn = h.draw(0, 0) + h.draw(0, 1) + h.draw(1, 0) + h.draw(1, 1);
            int more = heat - h.heat(0) - (h.heat(1) - h.heat(0)) / 4;
            h.setCooling(0, Math.max(0, Math.min(300, drawn - 10 * more)));
            h.pass(1);
        }
        check.is("Heat: as it was made", h.heat(0), heat);
    }

    private static void shutDownAt60() {
        for (int heat = 58; heat <= 62; heat++) {
            CloudHall h = hallAt(heat);
            check.is("Heat: at " + heat, Check.states(h), heat < 60 ? "++" : "hh");
            check.is("35 alarm h at " + heat, Check.alarms(h), heat < 60 ? "0" : "1 h0");
            check.is("Heat: its parts at " + heat, h.load(0) + h.load(1), heat < 60 ? 32 : 0);
        }
    }

    private static void shutDownOnlyOnes() {
        CloudHall h = hallAt(50);
        h.addMachine(0, 1, 1);
        h.addMachine(0, 1, 1);
        h.addMachine(0, 1, 1);
        h.addMachine(1, 1, 1);
        h.addRack(1, 50);
        h.addMachine(2, 1, 1);
        h.turnOff(2);
        h.pull(3, 0, false);
        h.pull(3, 1, false);
        h.fail(4);
        h.turnOff(5);
        h.turnOn(5);
        check.is("Heat: on, on, off, without power, failed, starts, and on in the next aisle", Check.states(h), "++-ufs+");
        comeTo(h, 60);
        check.is("Heat: those that are on, and what started", Check.states(h), "hh-ufh+");
        h.pull(3, 1, true);
        check.is("Heat: power lets no other on", Check.states(h), "hh-+fh+");
    }

    private static void onAgainAt40() {
        for (int heat = 42; heat >= 38; heat--) {
            CloudHall h = hallAt(60);
            comeTo(h, heat);
            check.is("Heat: at " + heat, Check.states(h), heat > 40 ? "hh" : "++");
            check.is("Heat: its jobs are placed in this hour at " + heat, h.load(0) + h.load(1), heat > 40 ? 0 : 32);
            check.is("34 no alarm of that", Check.alarms(h), "1 h0");
        }
    }

    private static void onAgainOnlyOnes() {
        CloudHall h = hallAt(60);
        h.addMachine(0, 1, 1);
        h.turnOff(2);
        h.turnOff(1);
        h.turnOn(1);
        h.addMachine(0, 1, 1);
        h.fail(3);
        check.is("Heat: shut down, starts, off, failed", Check.states(h), "hs-f");
        comeTo(h, 40);
        check.is("Heat: those that were shut down, and what started", Check.states(h), "++-f");
    }

    private static void betweenThemNothingChanges() {
        for (int heat = 41; heat <= 50; heat += 3) {
            CloudHall on = hallAt(heat);
            check.is("Heat: on at " + heat, Check.states(on) + on.alarms(), "++0");
            CloudHall off = hallAt(60);
            off.turnOn(0);
            comeTo(off, heat);
            check.is("Heat: started, and shut down still, at " + heat, Check.states(off) + off.alarms(), "+h1");
        }
    }

    private static void aHotAisleShutsDownWhatComesOn() {
        CloudHall h = hallAt(60);
        h.setCooling(0, 0);
        h.turnOn(0);
        h.turnOff(1);
        h.pass(1);
        check.is("Heat: 51 is not enough", h.heat(0) + Check.states(h) + h.alarms(), "51+-1");
        CloudHall again = new CloudHall();
        for (int i = 0; i < 4; i++) {
            again.addRack(2, 200);
            again.addMachine(i, 16, 9);
        }
        again.setCooling(2, 300);
        for (int i = 0; i < 4; i++) {
            Check.take(again, i, 16);
        }
        again.setCooling(2, 0);
        again.pass(1);
        check.is("Heat: far more than 60", again.heat(2) + Check.states(again) + Check.alarms(again), "90hhhh1 h2");
        again.turnOn(3);
        again.pass(1);
        check.is("Heat: what starts is shut down again, by an alarm of its own",
                again.heat(2) + Check.states(again) + Check.alarms(again), "73hhhh2 h2 h2");
    }

    private static void eachAisleByItself() {
        CloudHall h = new CloudHall();
        for (int i = 0; i < 6; i++) {
            h.addRack(i / 2, 200);
            h.addMachine(i, 16, 9);
            h.setCooling(i / 2, 300);
        }
        for (int i = 0; i < 6; i++) {
            Check.take(h, i, 16);
        }
        step(h, 296 - 290, 296 - 290, 296 - 290);
        check.is("Heat: all alike", heats(h) + Check.states(h), "49 49 49++++++");
        step(h, 296 - 110, 296 - 100, 296 - 120);
        check.is("Heat: 60, 59 and 61", heats(h) + Check.states(h), "60 59 61hh++hh");
        check.is("34 by rising aisles", Check.alarms(h), "2 h2 h0");
        step(h, 200, 296 - 110, 220);
        check.is("Heat: 40, 70 and 39", heats(h) + Check.states(h), "40 70 39++hh++");
        check.is("36 the aisle", Check.alarms(h), "3 h1 h2 h0");
    }
}
