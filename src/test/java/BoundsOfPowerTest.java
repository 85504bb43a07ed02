/** What the Terms say of power, at each bound and on either side of it. */
public final class BoundsOfPowerTest {
    private static final Check check = new Check();

    public static void main(String[] args) {
        eachCoreTakesItsWatts();
        eachStateDraws();
        halvesOfEachMachine();
        feedsAtTheMachine();
        someCharge();
        mainsNeedNoCharge();
        aBreakerThatTrippedIsNotLive();
        breakerBearsJustWhatIsDrawn();
        breakerBearsHalves();
        oneMoreByTheOtherFeed();
        lookedAtBehindAddMachine();
        lookedAtBehindTurnOn();
        lookedAtBehindPull();
        lookedAtBehindSetBattery();
        lookedAtBehindSetMains();
        lookedAtBehindResetBreaker();
        lookedAtBehindPass();
        powerAgainAlsoIfItWasStarting();
        offStaysOff();
        tripsOneAndNotTheOther();
        againAndAgain();
        check.end();
    }

    private static CloudHall single(int bears, int cores, int watts) {
        CloudHall h = new CloudHall();
        h.addRack(0, bears);
        h.addMachine(0, cores, watts);
        return h;
    }

    private static void eachCoreTakesItsWatts() {
        for (int watts = 1; watts <= 9; watts += 4) {
            for (int cores = 0; cores <= 16; cores++) {
                CloudHall h = single(200, 16, watts);
                Check.kill(h, 1);
                Check.take(h, 0, cores);
                check.is("Power: 4, and " + watts + " for each of " + cores, h.draw(0, 0), 4 + watts * cores);
            }
        }
    }

    private static void eachStateDraws() {
        CloudHall h = single(50, 8, 1);
        check.is("Power: on draws 4", Check.draws(h, 0), "2 2");
        h.turnOff(0);
        check.is("Power: off draws nothing", Check.states(h) + Check.draws(h, 0), "-0 0");
        h.turnOn(0);
        check.is("Power: one that starts draws 4", Check.states(h) + Check.draws(h, 0), "s2 2");
        h.pull(0, 0, false);
        h.pull(0, 1, false);
        check.is("Power: one without power draws nothing", Check.states(h) + Check.draws(h, 0), "u0 0");
        h.pull(0, 0, true);
        h.pull(0, 1, true);
        h.fail(0);
        check.is("Power: one that failed draws nothing", Check.states(h) + Check.draws(h, 0), "f0 0");
        CloudHall hot = BoundsOfHeatTest.hallAt(60);
        check.is("Power: one shut down draws nothing", Check.states(hot) + Check.draws(hot, 0), "hh0 0");
    }

    private static void halvesOfEachMachine() {
        String[] due = {"2 2", "3 2", "3 3", "4 3", "4 4", "5 4"};
        for (int cores = 0; cores < due.length; cores++) {
            CloudHall h = single(50, 8, 1);
            Check.take(h, 0, cores);
            check.is("Power: the greater half of " + (4 + cores) + " by feed 0", Check.draws(h, 0), due[cores]);
        }
        CloudHall two = single(50, 8, 1);
        two.addMachine(0, 8, 1);
        Check.take(two, 0, 1);
        Check.take(two, 1, 3);
        check.is("Power: halves of each machine, not of the rack", Check.draws(two, 0), "7 5");
    }

    private static void feedsAtTheMachine() {
        CloudHall h = single(50, 8, 1);
        Check.take(h, 0, 3);
        h.pull(0, 0, false);
        check.is("Power: all by feed 1", Check.draws(h, 0), "0 7");
        h.pull(0, 0, true);
        h.pull(0, 1, false);
        check.is("Power: all by feed 0", Check.draws(h, 0), "7 0");
        h.pull(0, 1, true);
        check.is("Power: by each of two", Check.draws(h, 0), "4 3");
        for (int feed = 0; feed < 2; feed++) {
            CloudHall dead = single(50, 8, 1);
            Check.kill(dead, feed);
            dead.pull(0, 1 - feed, false);
            check.is("Power: one feed is in and not live, the other live and not in", Check.states(dead), "u");
        }
    }

    private static void someCharge() {
        for (int feed = 0; feed < 2; feed++) {
            for (int charge = 0; charge <= 2; charge++) {
                CloudHall h = single(50, 8, 1);
                Check.kill(h, 1 - feed);
                h.setMains(feed, false);
                h.setBattery(feed, charge);
                check.is("Power: some charge is 1 or more, not " + charge, Check.states(h), charge == 0 ? "u" : "+");
                check.is("Power: by this feed", h.draw(0, feed), charge == 0 ? 0 : 4);
            }
        }
    }

    private static void mainsNeedNoCharge() {
        CloudHall h = single(50, 8, 1);
        h.setBattery(0, 0);
        h.setBattery(1, 0);
        check.is("Power: mains alone", Check.states(h) + Check.draws(h, 0), "+2 2");
        h.setMains(0, false);
        check.is("Power: the mains of feed 1 alone", Check.states(h) + Check.draws(h, 0), "+0 4");
    }

    private static void aBreakerThatTrippedIsNotLive() {
        for (int feed = 0; feed < 2; feed++) {
            CloudHall h = tripped(feed);
            check.is("Power: mains and charge, but the breaker is out", h.charge(feed) + Check.states(h), "300uuu");
            h.turnOff(2);
            h.setMains(1 - feed, true);
            check.is("Power: all by the other", h.draw(0, feed) + " " + h.draw(0, 1 - feed), "0 8");
            h.resetBreaker(0, feed);
            check.is("Power: by each of two", Check.draws(h, 0), "4 4");
        }
    }

    /** The breaker of one feed has tripped by three machines; the other feed's is in, and has no power. */
    private static CloudHall tripped(int feed) {
        CloudHall h = single(10, 8, 1);
        h.addMachine(0, 8, 1);
        Check.kill(h, 1 - feed);
        h.addMachine(0, 8, 1);
        return h;
    }

    /** All is drawn by one feed; the last 4 of it by a machine that is added then. */
    private static CloudHall drawing(int bears, int drawn, int feed) {
        CloudHall h = new CloudHall();
        h.addRack(0, bears);
        h.setCooling(0, 300);
        Check.kill(h, 1 - feed);
        int rest = drawn - 4;
        for (int cores = 16; wattsFor(rest) == 0 && cores > 0; cores--) {
            if (wattsFor(rest - 4 - 9 * cores) > 0) {
                h.addMachine(0, 16, 9);
                Check.take(h, 0, cores);
                rest -= 4 + 9 * cores;
            }
        }
        int watts = wattsFor(rest);
        int number = h.addMachine(0, 16, watts);
        Check.take(h, number, (rest - 4) / watts);
        h.addMachine(0, 1, 1);
        return h;
    }

    /** The watts of a machine of 16 cores that can draw this, or 0. */
    private static int wattsFor(int drawn) {
        for (int watts = 1; watts <= 9; watts++) {
            if (drawn >= 4 && (drawn - 4) % watts == 0 && (drawn - 4) / watts <= 16) {
                return watts;
            }
        }
        return 0;
    }

    private static void breakerBearsJustWhatIsDrawn() {
        int[] bears = {10, 11, 19, 198, 199, 200};
        for (int b : bears) {
            for (int feed = 0; feed < 2; feed++) {
                for (int more = -1; more <= 1; more++) {
                    CloudHall h = drawing(b, b + more, feed);
                    check.is("Power: a breaker that bears " + b + ", of feed " + feed + ", and " + (b + more) + " drawn",
                            h.hasTripped(0, feed), more > 0);
                    check.is("Power: what is drawn by it then", h.draw(0, feed), more > 0 ? 0 : b + more);
                    check.is("Power: the other stays in", h.hasTripped(0, 1 - feed), false);
                    check.is("35 alarm b, if it has", h.alarms() > 0 && h.alarm(h.alarms() - 1) == 'b', more > 0);
                }
            }
        }
    }

    /** One machine with some cores taken, and three that have none: 4 more each, half of it by each feed. */
    private static void breakerBearsHalves() {
        String[] due = {"10 9 ++++0", "10 10 ++++0", "0 0 uuuu6"};
        for (int cores = 3; cores <= 5; cores++) {
            CloudHall h = single(10, 8, 1);
            Check.take(h, 0, cores);
            for (int i = 0; i < 3; i++) {
                h.addMachine(0, 1, 1);
            }
            check.is("Power: 10 is borne by each, not 11 by feed 0",
                    Check.draws(h, 0) + " " + Check.states(h) + h.alarms(), due[cores - 3]);
        }
    }

    private static void oneMoreByTheOtherFeed() {
        for (int more = 0; more < 2; more++) {
            CloudHall h = single(10, 8, 1);
            Check.take(h, 0, 2 + more);
            h.addMachine(0, 1, 1);
            Check.kill(h, 0);
            check.is("Power: one feed that has to bear all", h.hasTripped(0, 1) + Check.states(h) + Check.draws(h, 0),
                    more > 0 ? "trueuu0 0" : "false++0 10");
        }
    }

    private static void lookedAtBehindAddMachine() {
        CloudHall h = single(50, 8, 1);
        Check.kill(h, 0);
        Check.kill(h, 1);
        check.is("3 its number", h.addMachine(0, 8, 1), 1);
        check.is("Power: a machine added without power", Check.states(h) + Check.alarms(h), "uu2 p1 p0");
    }

    private static void lookedAtBehindTurnOn() {
        for (int cores = 1; cores <= 3; cores++) {
            CloudHall h = single(10, 8, 1);
            Check.kill(h, 1);
            h.addMachine(0, 8, 1);
            h.turnOff(1);
            Check.take(h, 0, cores);
            h.turnOn(1);
            check.is("Power: 4 of one that starts are looked at at once", Check.states(h) + h.hasTripped(0, 0),
                    cores == 3 ? "uutrue" : "+sfalse");
        }
    }

    private static void lookedAtBehindPull() {
        for (int cores = 1; cores <= 3; cores++) {
            for (int feed = 0; feed < 2; feed++) {
                CloudHall h = single(10, 8, 1);
                Check.take(h, 0, cores);
                h.addMachine(0, 8, 1);
                h.pull(1, 1 - feed, false);
                check.is("Power: borne till now", Check.states(h) + h.alarms(), "++0");
                check.is("14 one is in", h.pull(0, 1 - feed, false), 1);
                check.is("Power: all by one feed is looked at at once", Check.states(h) + h.hasTripped(0, feed),
                        cores == 3 ? "uutrue" : "++false");
            }
        }
    }

    private static void lookedAtBehindSetBattery() {
        for (int charge = 0; charge <= 1; charge++) {
            CloudHall h = single(50, 8, 1);
            Check.kill(h, 1);
            h.setMains(0, false);
            check.is("Power: by 300", Check.states(h), "+");
            check.is("5 300 before", h.setBattery(0, charge), 300);
            check.is("Power: by " + charge, Check.states(h) + Check.alarms(h), charge == 0 ? "u1 p0" : "+0");
            check.is("5 before", h.setBattery(0, 1), charge);
            check.is("Power: by 1", Check.states(h) + h.alarms(), "+" + (1 - charge));
        }
    }

    private static void lookedAtBehindSetMains() {
        CloudHall h = single(50, 8, 1);
        h.setBattery(0, 0);
        h.setBattery(1, 0);
        h.setMains(1, false);
        check.is("Power: one feed", Check.states(h) + h.alarms(), "+0");
        h.setMains(0, false);
        check.is("Power: none", Check.states(h) + h.alarms(), "u1");
        h.setMains(1, true);
        check.is("Power: one feed again", Check.states(h) + h.alarms(), "+1");
    }

    private static void lookedAtBehindResetBreaker() {
        CloudHall h = tripped(0);
        check.is("17 12 are more than 10", h.resetBreaker(0, 0) + Check.states(h) + h.hasTripped(0, 0), "0uuutrue");
        h.turnOff(1);
        check.is("17 8 are not", h.resetBreaker(0, 0) + Check.states(h) + h.hasTripped(0, 0), "8+-+false");
    }

    private static void lookedAtBehindPass() {
        CloudHall h = single(50, 8, 1);
        Check.kill(h, 1);
        h.setMains(0, false);
        h.setBattery(0, 8);
        h.pass(1);
        check.is("Power: 4 are left", h.charge(0) + Check.states(h), "4+");
        h.pass(1);
        check.is("Power: nothing is left", h.charge(0) + Check.states(h), "0u");
    }

    private static void powerAgainAlsoIfItWasStarting() {
        CloudHall h = single(50, 8, 1);
        h.addMachine(0, 8, 1);
        h.addMachine(0, 8, 1);
        h.turnOff(0);
        h.turnOff(2);
        h.turnOn(0);
        check.is("Power: starts, on, off", Check.states(h), "s+-");
        Check.kill(h, 0);
        Check.kill(h, 1);
        check.is("Power: without power is not off", Check.states(h) + Check.alarms(h), "uu-2 p1 p0");
        h.setMains(1, true);
        check.is("Power: both on, in the same hour", Check.states(h) + h.hour(), "++-0");
        check.is("34 no alarm of that", h.alarms(), 2);
    }

    private static void offStaysOff() {
        CloudHall h = single(50, 8, 1);
        h.turnOff(0);
        Check.kill(h, 0);
        Check.kill(h, 1);
        check.is("Power: one that is off is not without power", Check.states(h) + h.alarms(), "-0");
        CloudHall failed = single(50, 8, 1);
        failed.fail(0);
        Check.kill(failed, 0);
        Check.kill(failed, 1);
        check.is("Power: nor is one that failed", Check.states(failed) + failed.alarms(), "f1");
    }

    private static void tripsOneAndNotTheOther() {
        CloudHall h = new CloudHall();
        h.addRack(0, 10);
        h.addRack(1, 10);
        for (int i = 0; i < 6; i++) {
            h.addMachine(i / 3, 1, 1);
            h.pull(i, i < 3 ? 1 : 0, i < 2);
        }
        check.is("Power: rack 0 draws 8 and 4, rack 1 has tripped", Check.draws(h, 0) + Check.states(h), "8 4+++uuu");
        h.pull(0, 1, false);
        check.is("Power: 10 and 2", Check.draws(h, 0) + h.hasTripped(0, 0), "10 2false");
        h.pull(1, 1, false);
        check.is("Power: 12 by feed 0, and none by feed 1", h.hasTripped(0, 0) + Check.states(h), "trueuuuuuu");
        check.is("Power: the breaker that bears nothing stays in", h.hasTripped(0, 1) + " " + h.hasTripped(1, 0), "false false");
    }

    /** Feed 1 trips by machines that have it alone; feed 0 has to bear all of those that have both. */
    private static void againAndAgain() {
        for (int more = 0; more < 2; more++) {
            CloudHall h = single(10, 8, 1);
            Check.take(h, 0, 2 + more);
            h.addMachine(0, 1, 1);
            h.turnOff(1);
            h.pull(1, 0, false);
            h.addMachine(0, 1, 1);
            h.addMachine(0, 1, 1);
            h.pull(3, 0, false);
            check.is("Power: borne by both", Check.draws(h, 0) + Check.states(h), 5 + more + " 9+-++");
            h.turnOn(1);
            check.is("Power: looked at again, until none trips", Check.draws(h, 0) + Check.states(h) + Check.alarms(h),
                    more == 0 ? "10 0+u+u3 p3<2 p1<2 b1" : "0 0uuuu6 p3<4 p2<4 p1<4 p0<4 b0 b1");
        }
    }
}
