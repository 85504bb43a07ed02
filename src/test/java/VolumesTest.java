/** Promises 9, 23, 32 and 33, and what the Terms say of volumes. */
public final class VolumesTest {
    private static final Class<?> ILLEGAL = IllegalArgumentException.class;
    private static final Class<?> STATE = IllegalStateException.class;
    private static final Class<?> NO_SUCH = IndexOutOfBoundsException.class;
    private static final Class<?> UNSUPPORTED = UnsupportedOperationException.class;
    private static final Check check = new Check();

    public static void main(String[] args) {
        promise9Store();
        promise9Twenty();
        promise9NotAsManyMachines();
        promise9WhereCopiesGo();
        promise23Stored();
        promise32Copies();
        promise33IsLost();
        copiesMadeAnew();
        copiesMadeAnewOneAnHour();
        copiesMoved();
        copiesMovedWithinTheRack();
        copiesMovedOneAnHour();
        check.end();
    }

    private static CloudHall hallOf(int... machinesOfRacks) {
        CloudHall h = new CloudHall();
        for (int i = 0; i < machinesOfRacks.length; i++) {
            h.addRack(i % 3, 200);
            for (int j = 0; j < machinesOfRacks[i]; j++) {
                h.addMachine(i, 8, 1);
            }
        }
        return h;
    }

    private static String fills(CloudHall h, int machines) {
        StringBuilder all = new StringBuilder();
        for (int i = 0; i < machines; i++) {
            all.append(i == 0 ? "" : " ").append(h.stored(i));
        }
        return all.toString();
    }

    private static void promise9Store() {
        CloudHall h = hallOf(2, 2, 2);
        int[][] wrong = {{0, 1}, {4, 1}, {1, 0}, {1, 10}, {-1, 1}, {1, -1}};
        for (int[] w : wrong) {
            check.refuses("9 store " + w[0] + " " + w[1], h, ILLEGAL, () -> h.store(w[0], w[1]));
        }
        check.is("9 number", h.store(1, 9), 0);
        check.is("9 number", h.store(3, 1), 1);
        check.is("9 put at once", fills(h, 6), "9 1 1 0 1 0");
        check.is("9 copies", h.copies(0) * 10 + h.copies(1), 13);
    }

    private static void promise9Twenty() {
        CloudHall h = hallOf(4);
        for (int i = 0; i < 20; i++) {
            check.is("9 number", h.store(1, 1), i);
        }
        check.refuses("9 the 21st", h, STATE, () -> h.store(1, 1));
        check.refuses("9 the 21st, out of range", h, ILLEGAL, () -> h.store(4, 1));
        check.refuses("9 the 21st, that has no room", h, STATE, () -> h.store(3, 1));
        h.fail(0);
        check.refuses("9 there were 20", h, STATE, () -> h.store(1, 1));
    }

    private static void promise9NotAsManyMachines() {
        CloudHall none = new CloudHall();
        check.refuses("9 no machine", none, UNSUPPORTED, () -> none.store(1, 1));
        CloudHall h = hallOf(4, 1);
        check.refuses("9 three copies, two racks", h, UNSUPPORTED, () -> h.store(3, 1));
        h.drain(4, true);
        check.refuses("9 one is drained", h, UNSUPPORTED, () -> h.store(2, 1));
        h.drain(4, false);
        h.turnOff(4);
        check.refuses("9 one is off", h, UNSUPPORTED, () -> h.store(2, 1));
        h.turnOn(4);
        check.refuses("9 one starts", h, UNSUPPORTED, () -> h.store(2, 1));
        h.pass(1);
        check.is("9 the refused have no number", h.store(2, 9), 0);
        check.refuses("9 no room for 4 more in rack 1", h, UNSUPPORTED, () -> h.store(2, 4));
        check.is("9 room for 3 more", h.store(2, 3), 1);
        check.is("9 stored", fills(h, 5), "9 3 0 0 12");
    }

    private static void promise9WhereCopiesGo() {
        CloudHall h = hallOf(2, 2);
        h.store(1, 5);
        h.store(1, 4);
        h.store(1, 3);
        check.is("9 least stored, then the lowest", fills(h, 4), "5 4 3 0");
        h.store(2, 2);
        check.is("9 least stored of all, then of the other rack", fills(h, 4), "5 6 3 2");
        h.store(1, 9);
        check.is("9 least stored", fills(h, 4), "5 6 3 11");
        h.store(1, 9);
        check.is("9 that with room", fills(h, 4), "5 6 12 11");
    }

    private static void promise23Stored() {
        CloudHall h = hallOf(1);
        check.refuses("23 machine 1", h, NO_SUCH, () -> h.stored(1));
        check.refuses("23 machine -1", h, NO_SUCH, () -> h.stored(-1));
        check.is("23 nothing", h.stored(0), 0);
        h.store(1, 9);
        h.store(1, 3);
        check.is("23 the sum of the sizes", h.stored(0), 12);
        check.refuses("9 it has room for 12", h, UNSUPPORTED, () -> h.store(1, 1));
        h.fail(0);
        check.is("23 nothing when it failed", h.stored(0), 0);
    }

    private static void promise32Copies() {
        CloudHall h = hallOf(1, 1, 1);
        check.refuses("32 no volume", h, NO_SUCH, () -> h.copies(0));
        h.store(3, 2);
        check.refuses("32 volume -1", h, NO_SUCH, () -> h.copies(-1));
        check.refuses("32 volume 1", h, NO_SUCH, () -> h.copies(1));
        check.is("32 all", h.copies(0), 3);
        h.turnOff(1);
        check.is("32 also on one that is off", h.copies(0), 3);
        h.fail(0);
        check.is("32 not on one that failed", h.copies(0), 2);
        h.fail(1);
        h.fail(2);
        check.is("32 none", h.copies(0), 0);
    }

    private static void promise33IsLost() {
        CloudHall h = hallOf(1, 1);
        check.refuses("33 no volume", h, NO_SUCH, () -> h.isLost(0));
        h.store(2, 2);
        check.refuses("33 volume -1", h, NO_SUCH, () -> h.isLost(-1));
        check.refuses("33 volume 1", h, NO_SUCH, () -> h.isLost(1));
        h.turnOff(0);
        check.is("33 one is on", h.isLost(0), false);
        h.fail(1);
        check.is("33 one is left, on a machine that is off", h.isLost(0), false);
        h.fail(0);
        check.is("33 lost", h.isLost(0), true);
        h.repair(0);
        h.pass(1);
        h.turnOn(0);
        h.pass(2);
        check.is("33 lost for good", h.isLost(0) + Check.states(h) + h.stored(0), "true+f0");
    }

    private static void copiesMadeAnew() {
        CloudHall h = hallOf(1, 1, 2);
        h.store(2, 5);
        h.store(1, 7);
        check.is("9 stored", fills(h, 4), "5 5 7 0");
        h.fail(0);
        check.is("19 lost one", h.copies(0), 1);
        h.pass(1);
        check.is("19 made anew on that with the least stored", fills(h, 4), "0 5 7 5");
        h.fail(3);
        h.pass(1);
        check.is("19 made anew where there is room", fills(h, 4), "0 5 12 0");
        h.turnOff(1);
        h.fail(2);
        check.is("9 one copy, on a machine that is off", h.copies(0), 1);
        h.repair(2);
        h.pass(1);
        h.turnOn(2);
        h.pass(1);
        check.is("19 none anew, since no copy is on", Check.states(h) + fills(h, 4), "f-+f0 5 0 0");
        h.turnOn(1);
        h.drain(2, true);
        h.pass(1);
        check.is("19 none on one that is drained", h.copies(0), 1);
        h.drain(2, false);
        h.drain(1, true);
        h.pass(1);
        check.is("19 from one that is drained", fills(h, 4), "0 5 5 0");
        check.is("33 the other volume is lost", h.isLost(1), true);
    }

    private static void copiesMadeAnewOneAnHour() {
        CloudHall h = hallOf(1, 1, 1, 1, 1);
        h.store(3, 3);
        h.store(3, 4);
        check.is("9 stored", fills(h, 5), "7 3 3 4 4");
        h.fail(0);
        h.fail(1);
        check.is("19 lost", h.copies(0) * 10 + h.copies(1), 12);
        h.pass(1);
        check.is("19 each gets one more", fills(h, 5), "0 0 7 7 4");
        h.pass(1);
        check.is("19 in the next hour one more", fills(h, 5), "0 0 7 7 7");
        h.pass(1);
        check.is("19 no more than it should have", fills(h, 5), "0 0 7 7 7");
        check.is("43 copies are apart", h.isSound(), true);
    }

    private static void copiesMoved() {
        CloudHall h = hallOf(1, 1, 1);
        h.store(2, 5);
        h.store(1, 7);
        check.is("9 stored", fills(h, 3), "5 5 7");
        h.drain(0, true);
        h.pass(1);
        check.is("11 moved", fills(h, 3), "0 5 12");
        h.drain(0, false);
        h.drain(2, true);
        h.pass(1);
        check.is("11 the lowest volume first", fills(h, 3), "5 5 7");
        h.pass(1);
        check.is("11 then the next", fills(h, 3), "12 5 0");
        h.drain(2, false);
        h.drain(0, true);
        h.turnOff(2);
        h.pass(1);
        check.is("11 volume 0 can't be moved, volume 1 can", fills(h, 3), "5 12 0");
        h.pass(1);
        check.is("11 none can", fills(h, 3), "5 12 0");
    }

    private static void copiesMovedWithinTheRack() {
        CloudHall h = hallOf(2, 1);
        h.store(2, 5);
        check.is("9 stored", fills(h, 3), "5 0 5");
        h.drain(0, true);
        h.pass(1);
        check.is("11 the one that is moved is aside", fills(h, 3), "0 5 5");
        h.drain(2, true);
        h.pass(1);
        check.is("11 not beside another copy", fills(h, 3), "0 5 5");
        CloudHall off = hallOf(2);
        off.store(1, 5);
        off.turnOff(1);
        off.turnOn(1);
        off.drain(0, true);
        off.pass(1);
        check.is("11 one that has started takes it", fills(off, 2), "0 5");
        off.turnOff(0);
        off.drain(0, false);
        off.drain(1, true);
        off.pass(1);
        check.is("11 one that is off does not", fills(off, 2), "0 5");
    }

    private static void copiesMovedOneAnHour() {
        CloudHall h = hallOf(2, 2);
        for (int i = 0; i < 8; i++) {
            h.store(1, 2);
        }
        check.is("9 stored", fills(h, 4), "4 4 4 4");
        h.drain(0, true);
        h.drain(1, true);
        h.pass(1);
        check.is("11 one of each machine", fills(h, 4), "2 2 6 6");
        h.pass(1);
        check.is("11 in the next hour one more", fills(h, 4), "0 0 8 8");
    }
}
