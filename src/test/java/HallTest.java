/** Promises 1 to 6: a new object and the calls of the hall. */
public final class HallTest {
    private static final Class<?> ILLEGAL = IllegalArgumentException.class;
    private static final Class<?> STATE = IllegalStateException.class;
    private static final Class<?> NO_SUCH = IndexOutOfBoundsException.class;
    private static final Check check = new Check();

    public static void main(String[] args) {
        promise1NewObject();
        promise2AddRack();
        promise3AddMachine();
        promise3MachineBehindTrippedBreakers();
        promise4SetCooling();
        promise5SetBattery();
        promise5BatteryOfBothFeeds();
        promise6SetMains();
        check.end();
    }

    private static void promise1NewObject() {
        CloudHall h = new CloudHall();
        check.is("1 all of a new hall", Check.snapshot(h),
                "0 0 true tenant 0 0 tenant 0 0 tenant 0 0 tenant 0 0 aisle 20 aisle 20 aisle 20 charges 300 300 alarms 0");
        check.is("1 two halls are apart", new CloudHall().addRack(0, 10), h.addRack(0, 10));
        check.is("1 crew, one at first", ticketsAfterAnHour(), 1);
        check.is("1 an empty hall passes hours", h.pass(24), 24);
    }

    private static int ticketsAfterAnHour() {
        CloudHall h = new CloudHall();
        h.addRack(0, 50);
        for (int i = 0; i < 2; i++) {
            h.addMachine(0, 1, 1);
            h.fail(i);
            h.repair(i);
        }
        h.pass(1);
        return h.tickets();
    }

    private static void promise2AddRack() {
        CloudHall h = new CloudHall();
        int[][] wrong = {{-1, 50}, {3, 50}, {0, 9}, {0, 201}, {-1, 0}, {Integer.MAX_VALUE, 50}, {0, Integer.MIN_VALUE}};
        for (int[] w : wrong) {
            check.refuses("2 addRack " + w[0] + " " + w[1], h, ILLEGAL, () -> h.addRack(w[0], w[1]));
        }
        for (int i = 0; i < 8; i++) {
            check.is("2 number", h.addRack(i % 3, i % 2 == 0 ? 10 : 200), i);
        }
        check.refuses("2 the ninth", h, STATE, () -> h.addRack(0, 50));
        check.refuses("2 the ninth, out of range", h, ILLEGAL, () -> h.addRack(3, 50));
        check.refuses("2 the ninth, breaker out of range", h, ILLEGAL, () -> h.addRack(0, 9));
    }

    private static void promise3AddMachine() {
        CloudHall h = new CloudHall();
        check.refuses("3 no rack", h, NO_SUCH, () -> h.addMachine(0, 1, 1));
        for (int i = 0; i < 8; i++) {
            h.addRack(0, 50);
        }
        int[][] wrong = {{0, 1}, {17, 1}, {1, 0}, {1, 10}, {-1, 1}, {1, -1}};
        for (int[] w : wrong) {
            check.refuses("3 addMachine " + w[0] + " " + w[1], h, ILLEGAL, () -> h.addMachine(0, w[0], w[1]));
        }
        check.refuses("3 rack -1 and cores 0", h, NO_SUCH, () -> h.addMachine(-1, 0, 1));
        check.refuses("3 rack 8", h, NO_SUCH, () -> h.addMachine(8, 1, 1));
        for (int i = 0; i < 4; i++) {
            check.is("3 number", h.addMachine(0, i % 2 == 0 ? 1 : 16, i % 2 == 0 ? 9 : 1), i);
            check.is("3 is on", h.stateOf(i), '+');
        }
        check.is("3 both feeds, 0", h.draw(0, 0), 8);
        check.is("3 both feeds, 1", h.draw(0, 1), 8);
        check.refuses("3 the rack has 4", h, STATE, () -> h.addMachine(0, 1, 1));
        check.refuses("3 the rack has 4, cores 17", h, ILLEGAL, () -> h.addMachine(0, 17, 1));
        for (int i = 4; i < 24; i++) {
            check.is("3 number", h.addMachine(i < 22 ? 1 + (i - 4) / 3 : 7, 1, 1), i);
        }
        check.refuses("3 there are 24", h, STATE, () -> h.addMachine(7, 1, 1));
        check.refuses("3 there are 24, watts 10", h, ILLEGAL, () -> h.addMachine(7, 1, 10));
        check.refuses("3 there are 24, no rack", h, NO_SUCH, () -> h.addMachine(8, 1, 10));
    }

    private static void promise3MachineBehindTrippedBreakers() {
        CloudHall h = new CloudHall();
        h.addRack(1, 10);
        for (int i = 0; i < 3; i++) {
            h.addMachine(0, 1, 1);
        }
        h.pull(0, 0, false);
        h.pull(1, 0, false);
        check.is("3 breaker bears all it can", h.draw(0, 1), 10);
        check.is("3 not tripped", h.hasTripped(0, 1), false);
        check.is("3 one machine more", h.addMachine(0, 1, 1), 3);
        check.is("3 tripped by the machine", h.hasTripped(0, 1), true);
        check.is("3 states", Check.states(h), "uu++");
        check.is("3 all by the other feed", h.draw(0, 0), 8);
        check.is("3 alarms", Check.alarms(h), "3 p1<2 p0<2 b1");
    }

    private static void promise4SetCooling() {
        CloudHall h = new CloudHall();
        int[][] wrong = {{-1, 0}, {3, 0}, {0, -1}, {0, 301}};
        for (int[] w : wrong) {
            check.refuses("4 setCooling " + w[0] + " " + w[1], h, ILLEGAL, () -> h.setCooling(w[0], w[1]));
        }
        check.is("4 60 at first", h.setCooling(0, 0), 60);
        check.is("4 before", h.setCooling(0, 300), 0);
        check.is("4 before", h.setCooling(0, 7), 300);
        check.is("4 another aisle", h.setCooling(2, 300), 60);
        h.addRack(0, 200);
        h.addMachine(0, 16, 9);
        h.submit(0, 1, 4, 40, -1);
        h.setCooling(0, 31);
        h.pass(2);
        check.is("4 40 less 31 is no tenth", h.heat(0), 20);
        h.setCooling(0, 30);
        h.pass(1);
        check.is("4 40 less 30 is one tenth", h.heat(0), 21);
    }

    private static void promise5SetBattery() {
        CloudHall h = new CloudHall();
        int[][] wrong = {{-1, 0}, {2, 0}, {0, -1}, {1, 2001}};
        for (int[] w : wrong) {
            check.refuses("5 setBattery " + w[0] + " " + w[1], h, ILLEGAL, () -> h.setBattery(w[0], w[1]));
        }
        check.is("5 300 at first", h.setBattery(0, 2000), 300);
        check.is("5 300 at first", h.setBattery(1, 0), 300);
        check.is("5 before", h.setBattery(0, 10), 2000);
        check.is("5 charge", h.charge(0), 10);
        h.addRack(0, 50);
        h.addMachine(0, 2, 1);
        h.pull(0, 1, false);
        h.setMains(0, false);
        h.pass(1);
        check.is("5 lessened by the draw", h.charge(0), 6);
        h.setMains(0, true);
        h.pass(1);
        check.is("5 no more than the greatest", h.charge(0), 10);
        h.setMains(0, false);
        h.pass(2);
        check.is("5 still on", Check.states(h) + h.charge(0), "+2");
        h.pass(1);
        check.is("5 run out", Check.states(h) + h.charge(0), "u0");
        check.is("5 what was left", h.setBattery(0, 1), 0);
        check.is("5 on again at once", Check.states(h), "+");
        check.is("5 emptied", h.setBattery(0, 0), 1);
        check.is("5 without power at once", Check.states(h), "u");
        h.setBattery(0, 120);
        check.is("5 charge before", h.setBattery(0, 100), 120);
        h.pass(3);
        check.is("5 lessened three times", h.charge(0), 88);
        h.setMains(0, true);
        h.setBattery(0, 100);
        h.setMains(0, false);
        h.pass(15);
        check.is("5 lessened by 60", h.charge(0), 40);
        h.setMains(0, true);
        h.pass(1);
        check.is("5 50 more", h.charge(0), 90);
        h.pass(1);
        check.is("5 up to the greatest", h.charge(0), 100);
        h.setMains(0, false);
        h.setBattery(0, 60);
        h.setMains(0, true);
        h.pass(1);
        check.is("5 50 more, up to the new greatest", h.charge(0), 60);
    }

    private static void promise5BatteryOfBothFeeds() {
        CloudHall h = new CloudHall();
        h.addRack(0, 50);
        h.addMachine(0, 4, 3);
        h.submit(0, 1, 3, 9, -1);
        h.pass(1);
        h.setBattery(0, 200);
        h.setMains(0, false);
        h.pass(2);
        check.is("5 the greater half by feed 0", h.charge(0), 200 - 14);
        check.is("5 mains keep the other full", h.charge(1), 300);
        h.setMains(0, true);
        h.setMains(1, false);
        h.pass(1);
        check.is("5 50 more, 200 at the most", h.charge(0), 200);
        check.is("5 the lesser half by feed 1", h.charge(1), 294);
        h.setBattery(0, 100);
        h.setMains(0, false);
        h.setBattery(0, 7);
        h.pass(1);
        check.is("5 a battery that runs out", h.charge(0), 0);
        check.is("5 the other bears its own half in that hour", h.charge(1), 294 - 6);
        check.is("5 all by the other feed then", h.draw(0, 1), 13);
        h.pass(1);
        check.is("5 all by the other battery behind it", h.charge(1), 288 - 13);
    }

    private static void promise6SetMains() {
        CloudHall h = new CloudHall();
        check.refuses("6 feed -1", h, ILLEGAL, () -> h.setMains(-1, true));
        check.refuses("6 feed 2", h, ILLEGAL, () -> h.setMains(2, false));
        check.is("6 on at first", h.setMains(0, true), true);
        check.is("6 on at first", h.setMains(1, false), true);
        check.is("6 off", h.setMains(1, false), false);
        check.is("6 the other is on", h.setMains(0, false), true);
        h.addRack(0, 50);
        h.addMachine(0, 1, 1);
        check.is("6 batteries bear it", Check.states(h), "+");
        h.setBattery(0, 0);
        check.is("6 by one feed", h.draw(0, 0) * 10 + h.draw(0, 1), 4);
        h.setBattery(1, 0);
        check.is("6 no power", Check.states(h) + Check.alarms(h), "u1 p0");
        check.is("6 on from now on", h.setMains(0, true), false);
        check.is("6 power again", Check.states(h), "+");
        check.is("6 by feed 0", h.draw(0, 0) * 10 + h.draw(0, 1), 40);
        check.is("6 off from now on", h.setMains(0, false), true);
        check.is("6 no power again", Check.states(h) + Check.alarms(h), "u2 p0 p0");
    }
}
