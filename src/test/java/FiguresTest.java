/** Promises 38 to 43: isSafe, bill, tickets, fullness, meanHeat and isSound. */
public final class FiguresTest {
    private static final Class<?> ILLEGAL = IllegalArgumentException.class;
    private static final Class<?> ARITHMETIC = ArithmeticException.class;
    private static final Check check = new Check();

    public static void main(String[] args) {
        promise38SafeVolumes();
        promise38SafeParts();
        promise38OneBreakerBearsNotAll();
        promise38MainsAndBatteries();
        promise38NothingChanges();
        promise39Bill();
        promise40Tickets();
        promise41Fullness();
        promise42MeanHeat();
        promise43IsSound();
        check.end();
    }

    private static void promise38SafeVolumes() {
        CloudHall h = Check.hallOf(3, 1, 50);
        check.is("38 nothing to lose", h.isSafe(), true);
        h.store(2, 1);
        h.store(3, 1);
        check.is("38 two copies and three", h.isSafe(), true);
        h.turnOff(0);
        check.is("38 one on a machine that is off", h.isSafe(), true);
        h.turnOn(0);
        h.pass(1);
        h.fail(0);
        check.is("38 one copy left", h.isSafe(), false);
        h.pass(1);
        check.is("38 made anew", h.isSafe() + " " + h.copies(0) + h.copies(1), "true 22");
        h.fail(1);
        h.fail(2);
        check.is("38 nothing left to lose", h.isSafe(), true);
        CloudHall one = Check.hallOf(1, 1, 50);
        one.store(1, 1);
        check.is("38 one copy by wish", one.isSafe(), false);
        one.pull(0, 0, false);
        one.pull(0, 1, false);
        check.is("38 one copy without power", one.isSafe(), false);
    }

    private static void promise38SafeParts() {
        CloudHall h = Check.hallOf(1, 2, 50);
        h.pull(0, 0, false);
        h.pull(1, 1, false);
        check.is("38 one feed each, but no part runs", h.isSafe(), true);
        h.submit(0, 1, 1, 40, -1);
        check.is("38 it waits", h.isSafe(), true);
        h.pass(1);
        check.is("38 a part by feed 1 alone", h.isSafe(), false);
        h.pull(0, 0, true);
        check.is("38 a part by both", h.isSafe(), true);
        h.pull(0, 1, false);
        check.is("38 a part by feed 0 alone", h.isSafe(), false);
        h.cancel(0);
        check.is("38 none", h.isSafe(), true);
    }

    private static void promise38OneBreakerBearsNotAll() {
        CloudHall h = Check.hallOf(1, 1, 10);
        h.submit(0, 1, 6, 40, -1);
        h.pass(1);
        check.is("38 each breaker bears 10", h.isSafe(), true);
        h.addMachine(0, 1, 1);
        check.is("38 none bears 14", h.isSafe() + " " + h.draw(0, 0) + h.draw(0, 1), "false 77");
        h.pull(1, 0, false);
        check.is("38 without feed 1 feed 0 bears 10, but 14 not the other way", h.isSafe(), false);
        h.pull(1, 0, true);
        h.pull(1, 1, false);
        check.is("38 nor this way", h.isSafe(), false);
        h.turnOff(1);
        check.is("38 10 again", h.isSafe(), true);
        CloudHall idle = Check.hallOf(1, 4, 10);
        check.is("38 16 are too many, but no part runs", idle.isSafe() + " " + idle.draw(0, 1), "true 8");
        CloudHall other = Check.hallOf(2, 1, 10);
        other.submit(0, 1, 6, 40, -1);
        other.pass(1);
        other.addMachine(1, 1, 1);
        other.addMachine(1, 1, 1);
        check.is("38 racks have breakers of their own", other.isSafe(), true);
    }

    private static void promise38MainsAndBatteries() {
        CloudHall h = Check.hallOf(1, 1, 20);
        h.submit(0, 1, 4, 40, -1);
        h.pass(1);
        h.setBattery(0, 0);
        h.setBattery(1, 0);
        check.is("38 mains without batteries", h.isSafe(), true);
        h.setMains(1, false);
        check.is("38 one feed is dead", h.isSafe(), false);
        h.setBattery(1, 1);
        check.is("38 it lives by its battery", h.isSafe(), true);
        h.setMains(0, false);
        check.is("38 now it is alone", h.isSafe(), false);
        h.setBattery(0, 1);
        check.is("38 both live by batteries", h.isSafe(), true);
        CloudHall both = Check.hallOf(2, 1, 20);
        both.submit(0, 2, 4, 40, 1);
        both.pass(1);
        both.setBattery(0, 0);
        both.pull(1, 1, false);
        check.is("38 mains of feed 0 stop the part of rack 1", both.isSafe(), false);
        both.pull(1, 1, true);
        check.is("38 mains of feed 0 stop none", both.isSafe(), true);
    }

    private static void promise38NothingChanges() {
        CloudHall h = Check.hallOf(2, 2, 14);
        h.store(2, 3);
        h.submit(0, 2, 3, 40, 1);
        h.pass(1);
        h.addMachine(0, 1, 1);
        String before = Check.snapshot(h);
        boolean first = h.isSafe();
        check.is("38 the same again", h.isSafe(), first);
        check.is("38 nothing changes", Check.snapshot(h), before);
    }

    private static void promise39Bill() {
        CloudHall h = Check.hallOf(1, 4, 200);
        check.refuses("39 tenant -1", h, ILLEGAL, () -> h.bill(-1));
        check.refuses("39 tenant 4", h, ILLEGAL, () -> h.bill(4));
        h.submit(2, 2, 3, 40, -1);
        h.submit(3, 1, 5, 2, -1);
        check.is("39 nothing", h.bill(2), 0L);
        h.pass(1);
        check.is("39 nothing while it waits", h.bill(2), 0L);
        h.pass(7);
        check.is("39 hours 1 to 7", h.bill(2) + " " + h.bill(3) + " " + h.bill(0), "42 10 0");
        h.pass(1);
        check.is("39 hour 8 times 3", h.bill(2), 42L + 18);
        h.pass(11);
        check.is("39 hours 8 to 19 times 3", h.bill(2), 42L + 12 * 18);
        h.pass(1);
        check.is("39 hour 20 times 1", h.bill(2), 42L + 12 * 18 + 6);
        h.pass(12);
        check.is("39 hours 21 to 32, the next day's 8 times 3", h.bill(2), 264L + 11 * 6 + 18);
        h.cancel(0);
        h.pass(3);
        check.is("39 stays", h.bill(2), 348L);
        CloudHall hot = new CloudHall();
        hot.addRack(0, 200);
        hot.addMachine(0, 16, 9);
        hot.submit(1, 2, 8, 40, -1);
        hot.pass(2);
        check.is("39 hours of jobs alone", hot.bill(1), 16L);
        hot.fail(0);
        hot.repair(0);
        hot.pass(2);
        check.is("39 neither repairs nor what waits", hot.bill(1), 16L);
    }

    private static void promise40Tickets() {
        CloudHall h = Check.hallOf(1, 3, 50);
        check.is("40 none", h.tickets(), 0);
        h.fail(0);
        h.fail(1);
        check.is("40 none is written", h.tickets(), 0);
        h.repair(0);
        h.repair(1);
        check.is("40 two wait", h.tickets(), 2);
        h.pass(1);
        check.is("40 one waits", h.tickets(), 1);
        h.pass(1);
        check.is("40 none waits", h.tickets(), 0);
    }

    private static void promise41Fullness() {
        CloudHall none = new CloudHall();
        check.refuses("41 no machine", none, ARITHMETIC, none::fullness);
        CloudHall h = new CloudHall();
        h.addRack(0, 200);
        h.addMachine(0, 7, 1);
        h.addMachine(0, 16, 1);
        check.is("41 none is taken", h.fullness(), 0f);
        h.submit(0, 2, 5, 40, -1);
        h.pass(1);
        check.is("41 10 of 23", h.fullness(), 10f / 23f);
        h.turnOff(1);
        check.is("41 those that are on alone", h.fullness(), 0f);
        h.submit(0, 1, 3, 40, -1);
        h.pass(1);
        check.is("41 3 of 7", h.fullness(), 3f / 7f);
        h.turnOn(1);
        check.is("41 one that starts is not on", h.fullness(), 3f / 7f);
        h.turnOff(1);
        h.turnOff(0);
        check.refuses("41 none is on", h, ARITHMETIC, h::fullness);
        h.turnOn(0);
        check.refuses("41 one starts", h, ARITHMETIC, h::fullness);
        h.fail(0);
        check.refuses("41 one failed", h, ARITHMETIC, h::fullness);
        CloudHall full = Check.hallOf(1, 1, 50);
        full.submit(0, 1, 8, 40, -1);
        full.pass(1);
        check.is("41 all", full.fullness(), 1f);
    }

    private static void promise42MeanHeat() {
        CloudHall h = new CloudHall();
        check.refuses("42 no racks", h, ARITHMETIC, h::meanHeat);
        h.addRack(0, 200);
        h.addRack(0, 200);
        check.is("42 20", h.meanHeat(), 20.0);
        h.addMachine(0, 16, 9);
        h.submit(0, 2, 8, 40, -1);
        h.pass(1);
        h.setCooling(0, 0);
        h.pass(1);
        check.is("42 one aisle", h.meanHeat(), 34.0);
        h.addRack(2, 200);
        check.is("42 two aisles", h.meanHeat(), 27.0);
        h.addRack(1, 200);
        check.is("42 three aisles", h.meanHeat(), 74.0 / 3.0);
    }

    private static void promise43IsSound() {
        CloudHall h = Check.hallOf(3, 2, 30);
        check.is("43 new", h.isSound() && new CloudHall().isSound(), true);
        h.store(3, 3);
        h.submit(0, 3, 4, 40, 1);
        h.submit(1, 3, 4, 40, 1);
        h.submit(1, 3, 4, 40, -1);
        h.pass(2);
        check.is("43 loaded", h.isSound() + " " + h.used(0) + " " + h.used(1), "true 12 12");
        h.setQuota(0, 5);
        check.is("43 a quota was made less", h.isSound(), true);
        h.setQuota(0, 11);
        check.is("43 and is less still", h.isSound(), true);
        h.setMains(0, false);
        h.setBattery(0, 0);
        h.fail(0);
        h.drain(2, true);
        h.pass(5);
        check.is("43 in spite of faults", h.isSound(), true);
        CloudHall tight = Check.hallOf(1, 1, 12);
        tight.submit(0, 1, 8, 40, -1);
        tight.pass(1);
        for (int feed = 0; feed < 2; feed++) {
            tight.pull(0, feed, false);
            check.is("43 a breaker that bears all it can", tight.draw(0, 1 - feed) + " " + tight.isSound(), "12 true");
            tight.pull(0, feed, true);
        }
        CloudHall whole = Check.hallOf(1, 4, 200);
        whole.submit(0, 4, 8, 40, -1);
        whole.pass(1);
        whole.addRack(0, 200);
        whole.addMachine(1, 8, 1);
        whole.submit(0, 1, 8, 40, -1);
        whole.pass(1);
        check.is("43 a quota that is used up", whole.used(0) + " " + whole.isSound(), "40 true");
    }
}
