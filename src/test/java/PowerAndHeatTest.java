/** Promises 20 to 27 and 34 to 37, and what the Terms say of power, heat and alarms. */
public final class PowerAndHeatTest {
    private static final Class<?> ILLEGAL = IllegalArgumentException.class;
    private static final Class<?> NO_SUCH = IndexOutOfBoundsException.class;
    private static final Check check = new Check();

    public static void main(String[] args) {
        promise20Hour();
        promise21StateOf();
        promise22Load();
        promise24Heat();
        heatOfNeighbours();
        heatCutTowardsZero();
        heatShutsDownAt60();
        heatComesOnAt40();
        heatOfEachFeed();
        heatComesOnWithoutPower();
        heatRaisesNoAlarmForNone();
        promise25Draw();
        promise26HasTripped();
        oneBreakerTakesTheOtherAlong();
        breakersByRisingRacks();
        lastBreakerIsTheCause();
        promise27Charge();
        promise34To37Alarms();
        promise37OnlyKeptCauses();
        check.end();
    }

    private static void promise20Hour() {
        CloudHall h = new CloudHall();
        check.is("20 0 at first", h.hour(), 0);
        h.pass(3);
        check.is("20 three", h.hour(), 3);
    }

    private static void promise21StateOf() {
        CloudHall h = new CloudHall();
        h.addRack(0, 50);
        check.refuses("21 machine 0", h, NO_SUCH, () -> h.stateOf(0));
        h.addMachine(0, 8, 1);
        check.refuses("21 machine -1", h, NO_SUCH, () -> h.stateOf(-1));
        check.refuses("21 machine 1", h, NO_SUCH, () -> h.stateOf(1));
        check.is("21 on", h.stateOf(0), '+');
        h.turnOff(0);
        check.is("21 off", h.stateOf(0), '-');
        h.turnOn(0);
        check.is("21 starts", h.stateOf(0), 's');
        h.pull(0, 0, false);
        h.pull(0, 1, false);
        check.is("21 without power", h.stateOf(0), 'u');
        h.fail(0);
        check.is("21 failed", h.stateOf(0), 'f');
    }

    private static void promise22Load() {
        CloudHall h = new CloudHall();
        h.addRack(0, 50);
        check.refuses("22 machine 0", h, NO_SUCH, () -> h.load(0));
        h.addMachine(0, 8, 1);
        check.refuses("22 machine -1", h, NO_SUCH, () -> h.load(-1));
        check.is("22 none", h.load(0), 0);
        h.submit(0, 2, 3, 1, -1);
        h.submit(0, 1, 1, 9, -1);
        h.pass(1);
        check.is("22 all parts", h.load(0), 7);
        h.pass(1);
        check.is("22 one job is done", h.load(0), 1);
    }

    /** Two racks in aisle 0 that draw 148 each, as soon as an hour has passed. */
    private static CloudHall hotHall() {
        CloudHall h = new CloudHall();
        h.addRack(0, 200);
        h.addRack(0, 200);
        h.addMachine(0, 16, 9);
        h.addMachine(1, 16, 9);
        h.submit(0, 4, 8, 40, -1);
        h.pass(1);
        h.setCooling(0, 0);
        return h;
    }

    private static String heats(CloudHall h) {
        return h.heat(0) + " " + h.heat(1) + " " + h.heat(2);
    }

    private static void promise24Heat() {
        CloudHall h = new CloudHall();
        check.refuses("24 aisle -1", h, ILLEGAL, () -> h.heat(-1));
        check.refuses("24 aisle 3", h, ILLEGAL, () -> h.heat(3));
        check.is("24 20 at first", heats(h), "20 20 20");
        h.setCooling(0, 300);
        h.pass(5);
        check.is("24 never less than 20", heats(h), "20 20 20");
    }

    private static void heatOfNeighbours() {
        CloudHall h = hotHall();
        check.is("24 296 by all feeds", h.draw(0, 0) + h.draw(0, 1) + h.draw(1, 0) + h.draw(1, 1), 296);
        String[] due = {"49 20 20", "71 21 20", "59 27 20", "51 27 20", "45 25 20", "40 22 20"};
        for (String d : due) {
            h.pass(1);
            check.is("24 all aisles at once", heats(h), d);
        }
        CloudHall middle = new CloudHall();
        middle.addRack(1, 200);
        middle.addMachine(0, 16, 9);
        middle.setCooling(0, 0);
        middle.setCooling(1, 0);
        middle.setCooling(2, 8);
        middle.submit(0, 2, 8, 40, -1);
        middle.pass(2);
        check.is("24 14 more", heats(middle), "20 34 20");
        middle.pass(1);
        check.is("24 both sides", heats(middle), "23 41 23");
        middle.pass(1);
        check.is("24 both sides", heats(middle), "27 46 27");
    }

    private static void heatCutTowardsZero() {
        CloudHall h = hotHall();
        h.pass(1);
        h.cancel(0);
        h.setCooling(0, 17);
        h.pass(1);
        check.is("24 8 less 17 is no tenth, -29 are -7 quarters", heats(h), "42 21 20");
        h.setCooling(0, 27);
        h.pass(1);
        check.is("24 8 less 27 is a tenth, -21 are -5 quarters", h.heat(0), 36);
    }

    private static void heatShutsDownAt60() {
        CloudHall h = hotHall();
        h.pass(1);
        h.setCooling(0, 117);
        h.pass(1);
        check.is("24 59 is not enough", h.heat(0) + Check.states(h) + h.alarms(), "59++0");
        CloudHall hot = hotHall();
        hot.pass(1);
        hot.setCooling(0, 116);
        hot.addRack(1, 50);
        hot.addMachine(2, 1, 1);
        int left = hot.left(0);
        long bill = hot.bill(0);
        hot.pass(1);
        check.is("24 60 is enough, for this aisle alone", hot.heat(0) + Check.states(hot), "60hh+");
        check.is("24 one alarm about the aisle", Check.alarms(hot), "1 h0");
        check.is("24 its jobs stop", Check.places(hot, 0) + hot.load(0) + hot.used(0), "w00");
        check.is("19 ahead of the jobs' hour", hot.left(0) + " " + hot.bill(0), left + " " + bill);
        check.is("24 draws nothing", hot.draw(0, 0) + hot.draw(1, 1), 0);
        check.is("12 one shut down can be turned off", hot.turnOff(1), 0);
        check.is("12 off", Check.states(hot), "h-+");
        check.is("13 one shut down can be turned on", hot.turnOn(0), 4);
        check.is("13 starts", Check.states(hot), "s-+");
    }

    private static void heatComesOnAt40() {
        CloudHall h = hotHall();
        h.pass(2);
        check.is("24 shut down", Check.states(h), "hh");
        h.pass(3);
        check.is("24 45", h.heat(0) + Check.states(h), "45hh");
        h.addMachine(0, 1, 1);
        h.addMachine(0, 1, 1);
        h.addMachine(0, 1, 1);
        h.turnOff(1);
        h.pass(1);
        check.is("24 41 is too much", h.heat(0) + Check.states(h) + Check.places(h, 0), "41h-+++w");
        h.pass(1);
        check.is("24 on again, but not one that is off", h.heat(0) + Check.states(h), "38+-+++");
        CloudHall exact = hotHall();
        exact.pass(6);
        check.is("24 40 is enough", exact.heat(0) + Check.states(exact), "40++");
        check.is("24 the job is placed in this hour", Check.places(exact, 0), "0 1 0 1");
        check.is("24 one alarm", Check.alarms(exact), "1 h0");
        check.is("24 its hours stay", exact.left(0), 39);
    }

    private static void heatOfEachFeed() {
        for (int feed = 0; feed < 2; feed++) {
            CloudHall h = new CloudHall();
            h.addRack(0, 200);
            h.addMachine(0, 16, 9);
            h.submit(0, 2, 8, 40, -1);
            h.pass(1);
            h.pull(0, 1 - feed, false);
            h.setCooling(0, 40);
            h.pass(1);
            check.is("24 108 by one feed", h.draw(0, feed) + " " + h.heat(0), "148 30");
            h.pull(0, 1 - feed, true);
            h.setCooling(0, 0);
            h.pass(1);
            check.is("24 148 by both", h.draw(0, feed) + " " + h.heat(0), "74 42");
        }
    }

    private static void heatComesOnWithoutPower() {
        CloudHall h = hotHall();
        h.pass(5);
        h.pull(1, 0, false);
        h.pull(1, 1, false);
        check.is("24 shut down stays so without power", Check.states(h), "hh");
        h.pass(1);
        check.is("24 without power then", Check.states(h) + Check.alarms(h), "+u2 p1 h0");
    }

    private static void heatRaisesNoAlarmForNone() {
        CloudHall h = new CloudHall();
        h.setQuota(0, 400);
        for (int i = 0; i < 4; i++) {
            h.addRack(2, 200);
            h.addMachine(i, 16, 9);
            h.submit(0, 2, 8, 40, -1);
        }
        h.pass(1);
        h.setCooling(2, 0);
        h.pass(1);
        check.is("24 59 more", h.heat(2) + Check.states(h) + h.alarms(), "79hhhh1");
        h.pass(1);
        check.is("24 hot, but none is on", h.heat(2) + Check.states(h) + h.alarms(), "65hhhh1");
        check.is("42 one aisle has racks", h.meanHeat(), 65.0);
    }

    private static void promise25Draw() {
        CloudHall h = new CloudHall();
        check.refuses("25 rack 0, feed 2", h, NO_SUCH, () -> h.draw(0, 2));
        h.addRack(0, 50);
        check.refuses("25 rack -1", h, NO_SUCH, () -> h.draw(-1, 0));
        check.refuses("25 feed -1", h, ILLEGAL, () -> h.draw(0, -1));
        check.refuses("25 feed 2", h, ILLEGAL, () -> h.draw(0, 2));
        check.is("25 no machine", h.draw(0, 0), 0);
        h.addMachine(0, 3, 3);
        h.addMachine(0, 3, 5);
        h.submit(0, 2, 1, 40, -1);
        h.pass(1);
        check.is("25 7 and 9, the greater halves", h.draw(0, 0), 4 + 5);
        check.is("25 the lesser halves", h.draw(0, 1), 3 + 4);
        h.pull(0, 0, false);
        check.is("25 one by feed 1 alone", h.draw(0, 0) * 100 + h.draw(0, 1), 500 + 11);
        h.setBattery(1, 20);
        h.setMains(1, false);
        check.is("25 by a battery", h.draw(0, 0) * 100 + h.draw(0, 1), 500 + 11);
        h.setBattery(1, 0);
        check.is("25 no mains, no charge", h.draw(0, 0) * 100 + h.draw(0, 1), 400);
    }

    private static void promise26HasTripped() {
        CloudHall h = new CloudHall();
        check.refuses("26 rack 0, feed 2", h, NO_SUCH, () -> h.hasTripped(0, 2));
        h.addRack(0, 10);
        h.addRack(0, 10);
        check.refuses("26 rack -1", h, NO_SUCH, () -> h.hasTripped(-1, 0));
        check.refuses("26 feed -1", h, ILLEGAL, () -> h.hasTripped(0, -1));
        check.refuses("26 feed 2", h, ILLEGAL, () -> h.hasTripped(1, 2));
        check.is("26 not", h.hasTripped(0, 0) || h.hasTripped(0, 1), false);
        for (int i = 0; i < 3; i++) {
            h.addMachine(1, 1, 1);
            h.pull(i, 1, false);
        }
        check.is("26 this alone", h.hasTripped(1, 0), true);
        check.is("26 no other", h.hasTripped(0, 0) || h.hasTripped(0, 1) || h.hasTripped(1, 1), false);
        h.pass(5);
        check.is("26 still", h.hasTripped(1, 0), true);
        check.is("36 2 times the rack plus the feed", h.alarmOf(3), 2);
    }

    private static void oneBreakerTakesTheOtherAlong() {
        CloudHall h = new CloudHall();
        h.addRack(0, 10);
        h.addMachine(0, 8, 1);
        h.submit(0, 1, 6, 40, -1);
        h.pass(1);
        h.addMachine(0, 1, 1);
        h.addMachine(0, 1, 1);
        check.is("26 9 and 9", h.draw(0, 0) * 10 + h.draw(0, 1), 99);
        check.is("14 pulled", h.pull(2, 0, false), 1);
        check.is("26 both", h.hasTripped(0, 0) && h.hasTripped(0, 1), true);
        check.is("26 all without power", Check.states(h) + Check.places(h, 0) + h.load(0), "uuuw0");
        check.is("34 feed 1, then feed 0", Check.alarms(h), "5 p2<3 p1<3 p0<3 b0 b1");
        check.is("17 feed 0 again", h.resetBreaker(0, 0), 8);
        check.is("17 on again by feed 0", Check.states(h), "++u");
    }

    private static void breakersByRisingRacks() {
        CloudHall h = new CloudHall();
        for (int i = 0; i < 3; i++) {
            h.addRack(i, i == 1 ? 20 : 10);
            for (int j = 0; j < 3; j++) {
                h.addMachine(i, 1, 1);
            }
        }
        h.setBattery(0, 0);
        h.setMains(0, false);
        check.is("34 breakers, then machines", Check.alarms(h), "8 p8<6 p7<6 p6<6 p2<7 p1<7 p0<7 b5 b1");
        check.is("21 without power", Check.states(h), "uuu+++uuu");
        h.setMains(0, true);
        check.is("34 on again, and 12 are more than 10 by one feed",
                Check.alarms(h).substring(0, 38), "16 p8<6 p7<6 p6<6 p2<7 p1<7 p0<7 b4 b0");
    }

    private static void lastBreakerIsTheCause() {
        CloudHall h = new CloudHall();
        h.addRack(0, 10);
        for (int i = 0; i < 3; i++) {
            h.addMachine(0, 1, 1);
            h.pull(i, 1, false);
        }
        check.is("37 by feed 0", Check.alarms(h), "4 p2<3 p1<3 p0<3 b0");
        h.pull(0, 1, true);
        h.pull(1, 1, true);
        check.is("21 by feed 1", Check.states(h), "++u");
        h.pull(2, 1, true);
        check.is("37 12 by feed 1", Check.alarms(h).substring(0, 19), "8 p2<3 p1<3 p0<3 b1");
        h.turnOff(1);
        h.turnOff(2);
        h.resetBreaker(0, 1);
        check.is("21 feed 1 is in", Check.states(h) + h.hasTripped(0, 0), "+--true");
        h.pull(0, 1, false);
        check.is("37 comes of that of feed 0, which is tripped still",
                h.causeOf(0) + " " + h.alarm(8) + h.alarmOf(8), "8 b0");
        h.resetBreaker(0, 0);
        h.pull(0, 0, false);
        check.is("37 none is tripped", Check.alarms(h).substring(0, 5), "10 p0");
        check.is("37 came of none", h.causeOf(0), 0);
    }

    private static void promise27Charge() {
        CloudHall h = new CloudHall();
        check.refuses("27 feed -1", h, ILLEGAL, () -> h.charge(-1));
        check.refuses("27 feed 2", h, ILLEGAL, () -> h.charge(2));
        check.is("27 300 at first", h.charge(0) + h.charge(1), 600);
        h.addRack(0, 50);
        h.addRack(1, 50);
        h.addMachine(0, 1, 1);
        h.addMachine(1, 1, 1);
        h.setMains(1, false);
        h.pass(10);
        check.is("27 what all racks draw", h.charge(1), 300 - 40);
        h.setMains(1, true);
        check.is("27 not at once", h.charge(1), 260);
        h.pass(1);
        check.is("27 50 more, up to 300", h.charge(1), 300);
        h.setMains(0, false);
        h.setMains(1, false);
        h.setBattery(0, 2000);
        h.setBattery(1, 1);
        h.pass(1);
        check.is("27 down to 0", h.charge(0) * 10 + h.charge(1), 19960);
        h.pass(1);
        check.is("27 all by feed 0", h.charge(0), 1988);
    }

    private static void promise34To37Alarms() {
        CloudHall h = new CloudHall();
        check.is("34 none", h.alarms(), 0);
        h.addRack(0, 10);
        for (int i = 0; i < 3; i++) {
            h.addMachine(0, 1, 1);
            h.pull(i, 1, false);
        }
        int[] wrong = {-1, 4, 60, Integer.MAX_VALUE, Integer.MIN_VALUE};
        for (int w : wrong) {
            check.refuses("35 alarm " + w, h, NO_SUCH, () -> h.alarm(w));
            check.refuses("36 alarmOf " + w, h, NO_SUCH, () -> h.alarmOf(w));
            check.refuses("37 causeOf " + w, h, NO_SUCH, () -> h.causeOf(w));
        }
        for (int i = 1; i < 15; i++) {
            h.resetBreaker(0, 0);
            check.is("34 four more", h.alarms(), 4 + 4 * i);
        }
        check.is("35 60, all kept", h.alarm(59) + " " + h.alarmOf(59) + " " + h.causeOf(58), "b 0 59");
        h.resetBreaker(0, 0);
        check.is("34 64", h.alarms(), 64);
        check.is("35 the last 60", h.alarm(59) + " " + h.alarmOf(0) + " " + h.causeOf(58), "b 2 59");
        check.refuses("35 not kept", h, NO_SUCH, () -> h.alarm(60));
        check.refuses("36 not kept", h, NO_SUCH, () -> h.alarmOf(60));
        check.refuses("37 not kept", h, NO_SUCH, () -> h.causeOf(60));
    }

    private static void promise37OnlyKeptCauses() {
        CloudHall h = new CloudHall();
        h.addRack(0, 10);
        h.addRack(0, 50);
        h.addMachine(1, 1, 1);
        h.addMachine(1, 1, 1);
        for (int i = 2; i < 5; i++) {
            h.addMachine(0, 1, 1);
            h.pull(i, 1, false);
        }
        for (int i = 1; i < 16; i++) {
            h.resetBreaker(0, 0);
        }
        check.is("37 comes of the oldest that is kept", h.causeOf(56), 59);
        h.fail(0);
        check.is("37 the breaker's is not kept", h.alarm(59), 'p');
        check.is("37 came of none", h.causeOf(59) + " " + h.causeOf(58) + " " + h.causeOf(57), "59 58 57");
        check.is("37 the next has its own", h.causeOf(55), 56);
        h.setBattery(0, 0);
        h.setBattery(1, 0);
        h.pass(1);
        for (int i = 0; i < 60; i++) {
            h.setMains(0, false);
            h.setMains(1, false);
            h.setMains(0, true);
            h.setMains(1, true);
        }
        h.pull(2, 0, false);
        h.pull(2, 1, true);
        h.pull(2, 1, false);
        check.is("37 its breaker's alarm is long gone", h.alarm(0) + " " + h.causeOf(0), "p 0");
    }
}
