/** The order of what an hour does, by the Terms. */
public final class HourTest {
    private static final Check check = new Check();

    public static void main(String[] args) {
        startsEndFirst();
        batteriesAheadOfJobs();
        powerBehindBatteries();
        heatAheadOfJobs();
        doneAheadOfPlacing();
        repairedIsOffInItsHour();
        copiesAheadOfMoving();
        movingByRisingMachines();
        powerBehindComingOn();
        powerAheadOfHeat();
        powerAheadOfCopies();
        hoursOfTheDay();
        manyHoursAreAsManyTimesOne();
        check.end();
    }

    private static void startsEndFirst() {
        CloudHall h = Check.hallOf(3, 1, 50);
        h.store(2, 2);
        h.fail(0);
        h.turnOff(2);
        h.turnOn(2);
        h.submit(0, 2, 8, 9, -1);
        h.pass(1);
        check.is("19 gets a copy and a part in its first hour", h.stored(2) + " " + Check.places(h, 0), "2 1 2");
    }

    private static void batteriesAheadOfJobs() {
        CloudHall h = Check.hallOf(1, 1, 50);
        h.submit(0, 1, 4, 9, -1);
        h.pass(1);
        h.setBattery(0, 12);
        h.setBattery(1, 0);
        h.setMains(0, false);
        h.setMains(1, false);
        h.pass(1);
        check.is("19 8 of 12", h.charge(0) + " " + h.left(0) + " " + h.bill(0), "4 8 4");
        h.pass(1);
        check.is("19 no power, no hour", h.charge(0) + " " + h.left(0) + " " + h.bill(0), "0 8 4");
        check.is("19 it waits", Check.states(h) + Check.places(h, 0) + Check.alarms(h), "uw1 p0");
    }

    private static void powerBehindBatteries() {
        CloudHall h = new CloudHall();
        h.addRack(0, 10);
        h.addRack(0, 50);
        for (int i = 0; i < 3; i++) {
            h.addMachine(0, 1, 1);
        }
        h.addMachine(1, 8, 9);
        h.setMains(0, false);
        h.setBattery(0, 6);
        check.is("21 all on", Check.states(h) + h.draw(0, 1), "++++6");
        h.pass(1);
        check.is("19 12 by feed 1 trip it", Check.states(h) + Check.alarms(h), "uuu+4 p2<3 p1<3 p0<3 b1");
    }

    private static void heatAheadOfJobs() {
        CloudHall h = new CloudHall();
        h.addRack(0, 200);
        h.addMachine(0, 16, 9);
        h.setCooling(0, 0);
        h.setCooling(1, 0);
        h.setCooling(2, 0);
        h.submit(0, 2, 8, 5, -1);
        h.pass(4);
        check.is("19 heat in three hours", h.heat(0) + " " + h.left(0), "54 2");
        h.pass(1);
        check.is("19 shut down ahead of the jobs' hour", h.heat(0) + Check.states(h) + h.left(0), "62h2");
        check.is("19 three hours are owed", h.bill(0), 48L);
    }

    private static void doneAheadOfPlacing() {
        CloudHall h = Check.hallOf(1, 1, 12);
        h.submit(0, 1, 8, 2, -1);
        h.submit(0, 1, 8, 2, -1);
        h.pass(2);
        check.is("19 the second waits", Check.places(h, 0) + Check.places(h, 1), "0w");
        h.pass(1);
        check.is("19 placed as the first is done", Check.places(h, 0) + Check.places(h, 1), "d0");
        check.is("19 with all its hours", h.left(1), 2);
    }

    private static void repairedIsOffInItsHour() {
        CloudHall h = Check.hallOf(1, 1, 50);
        h.submit(0, 1, 1, 9, -1);
        h.fail(0);
        h.repair(0);
        h.pass(1);
        check.is("19 off", Check.states(h) + Check.places(h, 0), "-w");
        h.turnOn(0);
        h.pass(1);
        check.is("19 on", Check.states(h) + Check.places(h, 0), "+0");
    }

    private static void copiesAheadOfMoving() {
        CloudHall h = new CloudHall();
        for (int i = 0; i < 4; i++) {
            h.addRack(0, 50);
            h.addMachine(i, 8, 1);
        }
        h.store(3, 7);
        h.store(1, 7);
        check.is("9 stored", h.stored(0) + " " + h.stored(1) + " " + h.stored(2) + " " + h.stored(3), "7 7 7 7");
        h.fail(0);
        h.repair(0);
        h.pass(1);
        h.turnOn(0);
        h.drain(3, true);
        h.pass(1);
        check.is("19 the new copy has taken the room", h.copies(0) + " " + h.stored(0) + " " + h.stored(3), "3 7 7");
    }

    private static void movingByRisingMachines() {
        CloudHall h = Check.hallOf(1, 3, 50);
        h.store(1, 9);
        h.store(1, 8);
        h.drain(0, true);
        h.drain(1, true);
        h.pass(1);
        check.is("19 the lower machine first", h.stored(0) + " " + h.stored(1) + " " + h.stored(2), "0 8 9");
        h.drain(2, true);
        h.drain(0, false);
        h.pass(1);
        check.is("19 then the next", h.stored(0) + " " + h.stored(1) + " " + h.stored(2), "8 0 9");
    }

    private static void powerBehindComingOn() {
        CloudHall h = new CloudHall();
        h.addRack(0, 200);
        h.addRack(0, 10);
        h.addMachine(0, 16, 9);
        for (int i = 0; i < 3; i++) {
            h.addMachine(1, 1, 1);
        }
        h.setCooling(0, 0);
        h.setCooling(1, 0);
        h.setCooling(2, 0);
        h.submit(0, 2, 8, 40, -1);
        h.pass(4);
        check.is("24 not hot enough", h.heat(0) + Check.states(h), "59++++");
        h.pass(1);
        check.is("24 all shut down", Check.states(h), "hhhh");
        h.setMains(1, false);
        h.setBattery(1, 0);
        check.is("34 the heat alone", Check.alarms(h), "1 h0");
        h.setCooling(0, 300);
        h.pass(1);
        check.is("19 on again, and tripped", Check.states(h) + Check.alarms(h), "+uuu5 p3<3 p2<3 p1<3 b2 h0");
    }

    private static CloudHall almostHotHall() {
        CloudHall h = new CloudHall();
        h.addRack(0, 200);
        h.addRack(1, 200);
        h.addMachine(0, 16, 9);
        h.addMachine(1, 1, 1);
        h.submit(0, 2, 8, 40, -1);
        h.setCooling(0, 0);
        h.setCooling(1, 0);
        h.pass(1);
        return h;
    }

    private static void powerAheadOfHeat() {
        CloudHall h = new CloudHall();
        for (int i = 0; i < 2; i++) {
            h.addRack(0, 200);
            h.addMachine(i, 16, 9);
        }
        for (int i = 0; i < 4; i++) {
            h.submit(0, 1, 8, 40, -1);
        }
        h.pass(1);
        h.setCooling(0, 0);
        h.pass(1);
        h.setCooling(0, 117);
        h.pass(1);
        h.setCooling(0, 0);
        h.pull(0, 1, false);
        h.setMains(0, false);
        h.setBattery(0, 200);
        check.is("19 almost hot", h.heat(0) + " " + h.draw(0, 0) + " " + h.draw(1, 0) + Check.states(h), "59 148 74++");
        h.pass(1);
        check.is("19 without power it neither heats nor is shut down",
                h.heat(0) + Check.states(h) + Check.alarms(h), "64uh2 h0 p0");
    }

    private static void powerAheadOfCopies() {
        CloudHall h = almostHotHall();
        h.pass(4);
        check.is("24 shut down", h.heat(0) + Check.states(h), "62h+");
        h.addRack(2, 50);
        h.addMachine(2, 1, 1);
        h.store(2, 4);
        h.fail(2);
        h.pull(0, 0, false);
        h.pull(0, 1, false);
        h.setCooling(0, 300);
        h.pass(1);
        check.is("19 without power it gets no copy", Check.states(h) + h.stored(0) + h.copies(0), "u+f01");
        check.is("34 heat, failing, no power", Check.alarms(h), "4 p0 v0<2 f2 h0");
        h.pull(0, 0, true);
        h.pass(1);
        check.is("19 with power it does", Check.states(h) + h.stored(0) + h.copies(0), "++f42");
    }

    private static void hoursOfTheDay() {
        CloudHall h = Check.hallOf(1, 1, 50);
        h.submit(0, 1, 1, 40, -1);
        h.pass(1);
        StringBuilder prices = new StringBuilder();
        for (int i = 0; i < 33; i++) {
            long before = h.bill(0);
            h.pass(1);
            prices.append(h.bill(0) - before);
        }
        check.is("39 hours 1 to 33", prices.toString(), "111111133333333333311111111111133");
    }

    private static void manyHoursAreAsManyTimesOne() {
        CloudHall many = busyHall();
        CloudHall one = busyHall();
        many.pass(24);
        for (int i = 0; i < 24; i++) {
            one.pass(1);
        }
        check.is("19 24 hours are 24 times one", Check.snapshot(many), Check.snapshot(one));
    }

    private static CloudHall busyHall() {
        CloudHall h = Check.hallOf(5, 2, 60);
        h.setCooling(0, 0);
        h.store(3, 4);
        h.store(2, 5);
        for (int i = 0; i < 12; i++) {
            h.submit(i % 4, 1 + i % 3, 2 + i % 5, 3 + i, i % 4 - 1);
        }
        h.setMains(0, false);
        h.fail(1);
        h.repair(1);
        h.drain(3, true);
        return h;
    }
}
