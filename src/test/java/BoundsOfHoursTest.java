/** What the Terms say of failing, hours and bills, at each bound and on either side of it. */
public final class BoundsOfHoursTest {
    private static final Class<?> STATE = IllegalStateException.class;
    private static final Check check = new Check();

    public static void main(String[] args) {
        chargeDownTo0();
        chargeUpToTheGreatest();
        chargeUpFrom0();
        chargeOfMainsThatAreOn();
        chargeOfATrippedBreaker();
        chargeSetAnew();
        startsEndWithPower();
        hours8To19();
        hours8To19OfLaterDays();
        owesPartsTimesCores();
        ticketsByPeopleAndSpares();
        ticketsInTheOrderOfWriting();
        repairedIsOffWithBothFeedsIn();
        notDrainedAnyMore();
        hour2000();
        passOfEachLength();
        check.end();
    }

    private static CloudHall drawingBy0(int drawn) {
        CloudHall h = new CloudHall();
        h.addRack(0, 200);
        h.setCooling(0, 300);
        Check.kill(h, 1);
        int rest = drawn;
        for (int i = 0; rest > 0; i++) {
            int cores = Math.min(16, rest - 4);
            h.addMachine(0, 16, 1);
            Check.take(h, i, cores);
            rest -= 4 + cores;
        }
        check.is("25 as it was made", h.draw(0, 0), drawn);
        return h;
    }

    private static void chargeDownTo0() {
        for (int charge = 1; charge <= 9; charge++) {
            CloudHall h = drawingBy0(4);
            h.setMains(0, false);
            h.setBattery(0, charge);
            h.pass(1);
            check.is("An hour: a charge of " + charge + " and 4 drawn", h.charge(0) + Check.states(h),
                    charge <= 4 ? "0u" : charge - 4 + "+");
            h.pass(1);
            check.is("An hour: and the next", h.charge(0) + Check.states(h), charge <= 8 ? "0u" : "1+");
        }
        CloudHall h = drawingBy0(51);
        h.setMains(0, false);
        h.setBattery(0, 2000);
        h.pass(1);
        check.is("An hour: the greatest charge", h.charge(0), 2000 - 51);
    }

    private static void chargeUpToTheGreatest() {
        for (int drawn = 48; drawn <= 52; drawn++) {
            for (int hours = 1; hours <= 2; hours++) {
                CloudHall h = drawingBy0(drawn);
                h.setBattery(0, 1900);
                h.setMains(0, false);
                h.pass(hours);
                check.is("An hour: lessened", h.charge(0), 1900 - hours * drawn);
                h.setMains(0, true);
                for (int i = 1; i <= 3; i++) {
                    h.pass(1);
                    check.is("An hour: " + i + " times 50 more of " + hours * drawn + " missing", h.charge(0),
                            Math.min(1900, 1900 - hours * drawn + 50 * i));
                }
            }
        }
    }

    private static void chargeUpFrom0() {
        int[] greatest = {0, 1, 49, 50, 51, 99, 100, 101, 300};
        for (int g : greatest) {
            CloudHall h = Check.hallOf(1, 1, 50);
            h.setBattery(1, g);
            h.setMains(1, false);
            for (int i = 0; i < 8; i++) {
                h.pass(24);
            }
            check.is("An hour: run out", h.charge(1) + Check.states(h), "0+");
            h.setMains(1, true);
            check.is("5 nothing at once", h.charge(1), 0);
            h.pass(1);
            check.is("An hour: 50 more, up to " + g, h.charge(1), Math.min(g, 50));
            h.pass(1);
            check.is("An hour: and 50 more, up to " + g, h.charge(1), Math.min(g, 100));
        }
    }

    private static void chargeOfMainsThatAreOn() {
        CloudHall h = drawingBy0(20);
        h.setBattery(0, 60);
        h.pass(3);
        check.is("An hour: nothing less while mains are on", h.charge(0), 60);
        h.setMains(0, false);
        h.setMains(0, true);
        h.pass(1);
        check.is("An hour: nor if they were off between hours", h.charge(0), 60);
    }

    private static void chargeOfATrippedBreaker() {
        CloudHall h = Check.hallOf(1, 2, 10);
        Check.kill(h, 1);
        h.addMachine(0, 1, 1);
        h.setMains(0, false);
        h.pass(3);
        check.is("An hour: nothing is drawn by a breaker that is out", h.charge(0) + Check.states(h), "300uuu");
    }

    private static void chargeSetAnew() {
        CloudHall h = drawingBy0(20);
        h.setBattery(0, 100);
        h.setMains(0, false);
        h.pass(1);
        check.is("5 its charge now", h.setBattery(0, 70), 80);
        h.setMains(0, true);
        h.pass(1);
        check.is("5 that is the greatest too", h.charge(0), 70);
        h.setBattery(0, 2000);
        h.pass(1);
        check.is("5 and this", h.charge(0), 2000);
    }

    private static void startsEndWithPower() {
        CloudHall h = Check.hallOf(1, 1, 50);
        h.turnOff(0);
        check.is("13 on in hour 1", h.turnOn(0) + Check.states(h), "1s");
        h.pass(1);
        check.is("An hour: on behind the next", h.hour() + Check.states(h), "1+");
        h.turnOff(0);
        h.pass(2);
        check.is("An hour: off stays off", Check.states(h), "-");
        check.is("13 on in hour 4", h.turnOn(0), 4);
        Check.kill(h, 0);
        Check.kill(h, 1);
        h.pass(1);
        check.is("An hour: not without power", Check.states(h), "u");
        CloudHall last = Check.hallOf(1, 1, 50);
        last.turnOff(0);
        last.turnOn(0);
        Check.kill(last, 1);
        last.setBattery(0, 4);
        last.setMains(0, false);
        last.pass(1);
        check.is("An hour: it was on, and its battery ran out", Check.states(last) + Check.alarms(last), "u1 p0");
    }

    private static int priceOf(CloudHall h) {
        long before = h.bill(0);
        h.pass(1);
        return (int) (h.bill(0) - before);
    }

    /** What one core owes in each of the next hours. */
    private static String prices(CloudHall h, int hours) {
        StringBuilder all = new StringBuilder();
        for (int i = 0; i < hours; i++) {
            all.append(priceOf(h));
        }
        return all.toString();
    }

    private static void hours8To19() {
        CloudHall h = Check.hallOf(1, 1, 50);
        h.submit(0, 1, 1, 40, -1);
        h.pass(1);
        check.is("An hour: 1 to 7", prices(h, 7), "1111111");
        check.is("An hour: 8 is the first that counts 3 times", h.hour() + " " + priceOf(h), "8 3");
        check.is("An hour: 9 to 18", prices(h, 10), "3333333333");
        check.is("An hour: 19 is the last", h.hour() + " " + priceOf(h), "19 3");
        check.is("An hour: 20 counts once", h.hour() + " " + priceOf(h), "20 1");
        check.is("An hour: 21 and 22", prices(h, 2), "11");
        check.is("An hour: 23, and 0 of the next day", h.hour() + " " + prices(h, 2), "23 11");
        check.is("An hour: 1 to 7 of the next day", h.hour() + " " + prices(h, 7), "25 1111111");
        check.is("An hour: 8 of the next day", h.hour() + " " + priceOf(h), "32 3");
    }

    private static void hours8To19OfLaterDays() {
        for (int day = 2; day <= 82; day += 16) {
            CloudHall h = Check.hallOf(1, 1, 50);
            for (int i = 0; i < day; i++) {
                h.pass(24);
            }
            h.submit(0, 1, 1, 40, -1);
            h.pass(7);
            check.is("An hour: 7 to 20 of day " + day, h.hour() + " " + prices(h, 14), 24 * day + 7 + " 13333333333331");
        }
    }

    private static void owesPartsTimesCores() {
        int[][] jobs = {{1, 1}, {1, 8}, {6, 1}, {6, 6}, {3, 5}};
        for (int[] job : jobs) {
            CloudHall h = new CloudHall();
            h.addRack(0, 200);
            for (int i = 0; i < 4; i++) {
                h.addMachine(0, 16, 2);
            }
            h.submit(1, job[0], job[1], 2, -1);
            h.pass(7);
            check.is("39 two hours of " + job[0] + " times " + job[1], h.bill(1) + h.jobState(0), 2L * job[0] * job[1] + 'd');
            h.submit(1, job[0], job[1], 2, -1);
            h.pass(2);
            check.is("39 and one at 3 times", h.hour() + " " + h.bill(1), "9 " + (2 + 3) * job[0] * job[1]);
            h.cancel(1);
            h.pass(1);
            check.is("39 none any more", h.bill(1) + " " + h.bill(0), (2 + 3) * job[0] * job[1] + " 0");
        }
    }

    private static void ticketsByPeopleAndSpares() {
        for (int people = 0; people <= 5; people++) {
            for (int spares = 0; spares <= 7; spares++) {
                CloudHall h = Check.hallOf(2, 3, 50);
                for (int i = 0; i < 6; i++) {
                    h.fail(i);
                    h.repair(i);
                }
                h.setCrew(people, spares);
                h.pass(1);
                int done = Math.min(people, spares);
                check.is("Failing: " + people + " people and " + spares + " spares", Check.states(h) + h.tickets(),
                        "------".substring(0, done) + "ffffff".substring(done) + (6 - done));
                check.is("Failing: each used up one", h.setCrew(5, 6), spares - done);
                h.pass(2);
                check.is("Failing: those that waited are done", Check.states(h) + h.tickets(), "------0");
                check.is("Failing: each used up one", h.setCrew(0, 0), 6 - (6 - done));
            }
        }
    }

    private static void ticketsInTheOrderOfWriting() {
        CloudHall h = Check.hallOf(1, 3, 50);
        int[] order = {1, 2, 0};
        for (int i = 0; i < 3; i++) {
            h.fail(i);
        }
        for (int i = 0; i < 3; i++) {
            check.is("16 as many wait", h.repair(order[i]), i + 1);
        }
        String[] due = {"f-f2", "f--1", "---0"};
        for (String d : due) {
            h.pass(1);
            check.is("An hour: one ticket", Check.states(h) + h.tickets(), d);
        }
        check.is("18 three of four spares are used up", h.setCrew(1, 4), 1);
    }

    private static void repairedIsOffWithBothFeedsIn() {
        for (int pulled = 0; pulled < 4; pulled++) {
            CloudHall h = Check.hallOf(1, 1, 50);
            h.pull(0, 0, pulled % 2 == 0);
            h.pull(0, 1, pulled < 2);
            h.fail(0);
            h.repair(0);
            h.pass(1);
            check.is("Failing: off, and draws nothing", Check.states(h) + Check.draws(h, 0), "-0 0");
            check.refuses("16 it has not failed any more", h, STATE, () -> h.repair(0));
            check.is("13 turned on", h.turnOn(0), 2);
            check.is("Failing: it has both feeds", Check.draws(h, 0), "2 2");
        }
    }

    private static void notDrainedAnyMore() {
        for (int drained = 0; drained < 2; drained++) {
            CloudHall h = Check.hallOf(1, 1, 50);
            h.drain(0, drained == 1);
            h.fail(0);
            h.repair(0);
            h.pass(1);
            check.is("Failing: not drained, though it was " + drained, h.drain(0, true), 0);
        }
    }

    private static void hour2000() {
        for (int hours = 1; hours <= 24; hours++) {
            CloudHall h = new CloudHall();
            for (int i = 0; i < 82; i++) {
                h.pass(24);
            }
            h.pass(24 - hours + 1);
            h.pass(7);
            check.is("20 just in time for " + hours, h.hour(), 2000 - hours);
            int many = hours;
            if (many < 24) {
                check.refuses("19 hour 2001", h, STATE, () -> h.pass(many + 1));
            }
            check.is("19 hour 2000", h.pass(hours), 2000);
            check.refuses("19 hour 2001", h, STATE, () -> h.pass(1));
            check.refuses("19 hour 2024", h, STATE, () -> h.pass(24));
        }
    }

    private static void passOfEachLength() {
        CloudHall h = new CloudHall();
        int due = 0;
        for (int hours = 1; hours <= 24; hours++) {
            due += hours;
            check.is("19 " + hours + " hours", h.pass(hours), due);
            check.is("20 the hour", h.hour(), due);
        }
    }
}
