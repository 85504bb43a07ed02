/** What the Terms say of volumes, at each bound and on either side of it. */
public final class BoundsOfVolumesTest {
    private static final Class<?> UNSUPPORTED = UnsupportedOperationException.class;
    private static final Check check = new Check();

    public static void main(String[] args) {
        roomFor12();
        roomFor12OfANewCopy();
        roomFor12OfOneThatIsMoved();
        asManyRacksAsCopies();
        onlyMachinesThatAreOn();
        leastStored();
        copiesStayTillTheMachineFails();
        lostWhenNoneIsLeft();
        oneMoreInEachHour();
        oneOnAMachineThatIsOn();
        noMoreThanItShould();
        lastCopyIsNotTurnedOff();
        lastCopyOfAnyVolume();
        movesOneCopyAnHour();
        movesOnlyIfOnAndDrained();
        movesTheOneAside();
        check.end();
    }

    private static String fills(CloudHall h, int machines) {
        StringBuilder all = new StringBuilder();
        for (int i = 0; i < machines; i++) {
            all.append(i == 0 ? "" : " ").append(h.stored(i));
        }
        return all.toString();
    }

    private static void fill(CloudHall h, int size) {
        for (int rest = size; rest > 0; rest -= 9) {
            h.store(1, Math.min(9, rest));
        }
    }

    private static void roomFor12() {
        for (int filled = 0; filled <= 12; filled++) {
            for (int size = 1; size <= 9; size++) {
                CloudHall h = Check.hallOf(1, 1, 50);
                fill(h, filled);
                int wanted = size;
                if (filled + size > 12) {
                    check.refuses("Volumes: " + size + " beside " + filled, h, UNSUPPORTED, () -> h.store(1, wanted));
                } else {
                    h.store(1, size);
                    check.is("Volumes: " + size + " beside " + filled, h.stored(0), filled + size);
                }
            }
        }
    }

    private static void roomFor12OfANewCopy() {
        for (int filled = 6; filled <= 8; filled++) {
            CloudHall h = Check.hallOf(3, 1, 50);
            h.turnOff(0);
            h.turnOff(1);
            fill(h, filled);
            h.turnOn(0);
            h.turnOn(1);
            h.pass(1);
            h.store(2, 5);
            check.is("Volumes: as it was made", fills(h, 3), "5 5 " + filled);
            h.fail(0);
            h.pass(1);
            check.is("Volumes: a new copy of 5 beside " + filled, fills(h, 3), "0 5 " + (filled <= 7 ? filled + 5 : filled));
        }
    }

    private static void roomFor12OfOneThatIsMoved() {
        for (int filled = 6; filled <= 8; filled++) {
            CloudHall h = Check.hallOf(2, 1, 50);
            h.store(1, 5);
            h.drain(0, true);
            fill(h, filled);
            check.is("Volumes: as it was made", fills(h, 2), "5 " + filled);
            h.pass(1);
            check.is("Volumes: 5 moved beside " + filled, fills(h, 2), filled <= 7 ? "0 " + (filled + 5) : "5 " + filled);
        }
    }

    private static void asManyRacksAsCopies() {
        for (int racks = 1; racks <= 4; racks++) {
            for (int copies = 1; copies <= 3; copies++) {
                CloudHall h = Check.hallOf(racks, 3, 50);
                int wanted = copies;
                if (copies > racks) {
                    check.refuses("Volumes: " + copies + " copies in " + racks + " racks", h, UNSUPPORTED, () -> h.store(wanted, 1));
                } else {
                    check.is("9 its number", h.store(copies, 1), 0);
                    check.is("Volumes: each in a rack of its own", fills(h, 3 * racks), fillsOf(racks, copies));
                }
            }
        }
    }

    private static String fillsOf(int racks, int copies) {
        StringBuilder all = new StringBuilder();
        for (int rack = 0; rack < racks; rack++) {
            all.append(rack == 0 ? "" : " ").append(rack < copies ? "1 0 0" : "0 0 0");
        }
        return all.toString();
    }

    private static void onlyMachinesThatAreOn() {
        for (char state : new char[] {'+', 's', '-', 'u', 'f'}) {
            CloudHall h = Check.hallOf(1, 1, 50);
            check.brings(h, 0, state);
            if (state == '+') {
                check.is("9 one that is on", h.store(1, 1), 0);
                h.drain(0, true);
                check.refuses("9 not on one that is drained", h, UNSUPPORTED, () -> h.store(1, 1));
                h.drain(0, false);
                check.is("9 drained no more", h.store(1, 1), 1);
            } else {
                check.refuses("9 not on one that is " + state, h, UNSUPPORTED, () -> h.store(1, 1));
            }
        }
        CloudHall hot = BoundsOfHeatTest.hallAt(60);
        check.refuses("9 not on one shut down", hot, UNSUPPORTED, () -> hot.store(1, 1));
    }

    private static void leastStored() {
        int[][] filled = {{2, 2, 2}, {3, 2, 2}, {3, 3, 2}, {2, 3, 2}, {1, 3, 2}, {2, 2, 1}, {4, 3, 3}, {0, 0, 0}, {1, 1, 0}};
        int[] due = {0, 1, 2, 0, 0, 2, 1, 0, 2};
        for (int i = 0; i < due.length; i++) {
            CloudHall h = Check.hallOf(1, 3, 50);
            for (int machine = 0; machine < 3; machine++) {
                for (int j = 0; j < 3; j++) {
                    h.drain(j, j != machine);
                }
                fill(h, filled[i][machine]);
            }
            for (int j = 0; j < 3; j++) {
                h.drain(j, false);
            }
            h.store(1, 1);
            filled[i][due[i]]++;
            check.is("Volumes: least stored, then the lowest", fills(h, 3),
                    filled[i][0] + " " + filled[i][1] + " " + filled[i][2]);
        }
    }

    private static void copiesStayTillTheMachineFails() {
        for (char state : new char[] {'+', '-', 's', 'u'}) {
            CloudHall h = Check.hallOf(2, 1, 50);
            h.store(2, 4);
            check.brings(h, 0, state);
            check.is("32 also if that is " + state, h.copies(0) + " " + h.stored(0), "2 4");
            h.pass(1);
            check.is("32 and behind an hour", h.copies(0) + " " + h.stored(0), "2 4");
            check.is("15 it takes its copy along, though it was " + state, h.fail(0), 1);
            check.is("32 till it fails", h.copies(0) + " " + h.stored(0), "1 0");
        }
    }

    private static void lostWhenNoneIsLeft() {
        for (int copies = 1; copies <= 3; copies++) {
            CloudHall h = Check.hallOf(3, 1, 50);
            h.store(copies, 4);
            for (int failed = 0; failed < copies; failed++) {
                check.is("33 " + (copies - failed) + " are left", h.isLost(0) + " " + h.copies(0), "false " + (copies - failed));
                h.fail(failed);
            }
            check.is("33 none is left", h.isLost(0) + " " + h.copies(0), "true 0");
            h.pass(3);
            check.is("33 nor is one made anew", h.isLost(0) + " " + h.copies(0) + fills(h, 3), "true 00 0 0");
        }
    }

    private static void oneMoreInEachHour() {
        CloudHall h = Check.hallOf(5, 1, 50);
        h.store(3, 4);
        h.fail(0);
        h.fail(1);
        check.is("Volumes: one of three", h.copies(0), 1);
        h.pass(1);
        check.is("Volumes: two behind an hour", h.copies(0) + " " + fills(h, 5), "2 0 0 4 4 0");
        h.pass(1);
        check.is("Volumes: three behind the next", h.copies(0) + " " + fills(h, 5), "3 0 0 4 4 4");
        h.pass(5);
        check.is("Volumes: no more", h.copies(0), 3);
        CloudHall few = Check.hallOf(3, 1, 50);
        few.store(3, 4);
        few.fail(0);
        few.pass(2);
        check.is("Volumes: none if there is no rack for it", few.copies(0), 2);
        few.repair(0);
        few.pass(1);
        few.turnOn(0);
        few.pass(1);
        check.is("Volumes: till there is one", few.copies(0) + " " + fills(few, 3), "3 4 4 4");
    }

    private static void oneOnAMachineThatIsOn() {
        for (char state : new char[] {'+', 's', '-', 'u'}) {
            CloudHall h = Check.hallOf(3, 1, 50);
            h.store(2, 4);
            check.brings(h, 0, state);
            h.fail(1);
            check.is("Volumes: one is left", h.copies(0), 1);
            h.pass(1);
            check.is("Volumes: one more, if that is on, not " + state, h.copies(0), state == '+' || state == 's' ? 2 : 1);
        }
        for (int on = 0; on <= 2; on++) {
            CloudHall h = Check.hallOf(4, 1, 50);
            h.store(3, 4);
            h.fail(2);
            for (int i = 0; i < 2 - on; i++) {
                h.pull(i, 0, false);
                h.pull(i, 1, false);
            }
            h.pass(1);
            check.is("Volumes: one of two on machines that are on is enough, not " + on, h.copies(0), on == 0 ? 2 : 3);
        }
    }

    private static void noMoreThanItShould() {
        for (int copies = 1; copies <= 3; copies++) {
            CloudHall h = Check.hallOf(5, 1, 50);
            h.store(copies, 4);
            h.pass(3);
            check.is("Volumes: no more than " + copies, h.copies(0), copies);
        }
    }

    private static void lastCopyIsNotTurnedOff() {
        for (char other : new char[] {'+', 's', '-', 'u', 'f'}) {
            CloudHall h = Check.hallOf(3, 1, 50);
            h.store(2, 4);
            check.brings(h, 1, other);
            if (other == '+') {
                check.is("12 the other copy is on", h.turnOff(0), 0);
            } else {
                check.refuses("12 the other copy's machine is " + other, h, UNSUPPORTED, () -> h.turnOff(0));
            }
            check.is("12 no copy on this one", h.turnOff(2), 0);
        }
        for (int on = 0; on <= 2; on++) {
            CloudHall h = Check.hallOf(3, 1, 50);
            h.store(3, 4);
            for (int i = 2; i > on; i--) {
                h.turnOff(i);
            }
            if (on == 0) {
                check.refuses("12 two others, none of them on", h, UNSUPPORTED, () -> h.turnOff(0));
            } else {
                check.is("12 two others, on are " + on, h.turnOff(0), 0);
            }
        }
        CloudHall one = Check.hallOf(2, 1, 50);
        one.store(1, 4);
        check.refuses("12 the only copy", one, UNSUPPORTED, () -> one.turnOff(0));
        one.drain(0, true);
        one.pass(1);
        check.is("12 moved away", one.turnOff(0), 0);
        check.refuses("12 to this", one, UNSUPPORTED, () -> one.turnOff(1));
    }

    private static void lastCopyOfAnyVolume() {
        CloudHall h = Check.hallOf(3, 1, 50);
        h.store(3, 1);
        h.store(2, 1);
        h.store(1, 1);
        check.is("9 as it was made", fills(h, 3), "2 2 2");
        check.refuses("12 the highest volume has no other", h, UNSUPPORTED, () -> h.turnOff(2));
        check.is("12 the others have", h.turnOff(0), 0);
        check.refuses("12 volume 1 has no other on", h, UNSUPPORTED, () -> h.turnOff(1));
    }

    private static void movesOneCopyAnHour() {
        CloudHall h = Check.hallOf(2, 1, 50);
        h.drain(1, true);
        for (int i = 0; i < 3; i++) {
            h.store(1, 1 + i);
        }
        h.drain(1, false);
        h.drain(0, true);
        check.is("9 as it was made", fills(h, 2), "6 0");
        h.pass(1);
        check.is("11 the lowest volume", fills(h, 2), "5 1");
        h.pass(1);
        check.is("11 the next", fills(h, 2), "3 3");
        h.pass(1);
        check.is("11 the last", fills(h, 2), "0 6");
        h.pass(1);
        check.is("11 none is left", fills(h, 2), "0 6");
    }

    private static void movesOnlyIfOnAndDrained() {
        for (char state : new char[] {'+', 's', '-', 'u'}) {
            for (int drained = 0; drained < 2; drained++) {
                CloudHall h = Check.hallOf(2, 2, 50);
                h.store(2, 4);
                check.brings(h, 0, state);
                h.drain(0, drained == 1);
                h.pass(1);
                boolean isMoved = drained == 1 && (state == '+' || state == 's');
                check.is("11 one that is " + state + ", drained " + drained, fills(h, 4), isMoved ? "0 4 4 0" : "4 0 4 0");
            }
        }
        CloudHall both = Check.hallOf(1, 2, 50);
        both.store(1, 4);
        both.drain(0, true);
        both.drain(1, true);
        both.pass(1);
        check.is("11 not onto one that is drained", fills(both, 2), "4 0");
    }

    private static void movesTheOneAside() {
        CloudHall h = Check.hallOf(3, 2, 50);
        h.store(3, 4);
        check.is("9 as it was made", fills(h, 6), "4 0 4 0 4 0");
        h.drain(2, true);
        h.pass(1);
        check.is("11 only in its own rack, since the others have copies", fills(h, 6), "4 0 0 4 4 0");
        h.drain(3, true);
        h.turnOff(2);
        h.pass(1);
        check.is("11 nowhere", fills(h, 6), "4 0 0 4 4 0");
    }
}
