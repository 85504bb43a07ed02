import java.util.ArrayList;
import java.util.NoSuchElementException;

public final class CloudHall {

    private static final int FEEDS = 2;
    private static final int AISLES = 3;
    private static final int TENANTS = 4;
    private static final int MOST_RACKS = 8;
    private static final int MOST_MACHINES = 24;
    private static final int MOST_IN_RACK = 4;
    private static final int MOST_JOBS = 40;
    private static final int MOST_VOLUMES = 20;
    private static final int LAST_HOUR = 2000;
    private static final int HOURS_OF_DAY = 24;

    private static final int BASE_WATTS = 4;
    private static final int CHARGED_IN_HOUR = 50;
    private static final int ROOM = 12;
    private static final int LEAST_HEAT = 20;
    private static final int HEAT_TO_SHUT_DOWN = 60;
    private static final int HEAT_TO_COME_ON = 40;
    private static final int KEPT_ALARMS = 60;
    private static final int NO_CAUSE = -1;

    // Every round but the last trips one of 16 breakers at least, or brings machines to what these give.
    private static final int MOST_ROUNDS = 100;

    private static final char ON = '+';
    private static final char OFF = '-';
    private static final char STARVED = 'u';
    private static final char HOT = 'h';
    private static final char FAILED = 'f';
    private static final char STARTS = 's';

    private static final char WAITS = 'w';
    private static final char RUNS = 'r';
    private static final char DONE = 'd';
    private static final char CANCELLED = 'c';

    private final Feed[] feeds = new Feed[FEEDS];
    private final Aisle[] aisles = new Aisle[AISLES];
    private final Tenant[] tenants = new Tenant[TENANTS];
    private final ArrayList<Rack> racks = new ArrayList<Rack>();
    private final ArrayList<Machine> machines = new ArrayList<Machine>();
    private final ArrayList<Job> jobs = new ArrayList<Job>();
    private final ArrayList<Volume> volumes = new ArrayList<Volume>();
    private final ArrayList<Machine> ticketed = new ArrayList<Machine>();
    private final AlarmLog log = new AlarmLog();
    private int people = 1;
    private int spares = 4;
    private int now = 0;

    public CloudHall() {
        for (int i = 0; i < feeds.length; i++) {
            feeds[i] = new Feed();
        }
        for (int i = 0; i < aisles.length; i++) {
            aisles[i] = new Aisle();
        }
        for (int i = 0; i < tenants.length; i++) {
            tenants[i] = new Tenant();
        }
    }

    // ---- the hall

    public int addRack(int aisle, int breaker) throws IllegalArgumentException, IllegalStateException {
        checkRange(aisle, 0, AISLES - 1);
        checkRange(breaker, 10, 200);
        if (racks.size() >= MOST_RACKS) {
            throw new IllegalStateException("there are 8 racks");
        }
        racks.add(new Rack(aisle, breaker));
        return racks.size() - 1;
    }

    public int addMachine(int rack, int cores, int watts)
            throws IndexOutOfBoundsException, IllegalArgumentException, IllegalStateException {
        Rack home = rackAt(rack);
        checkRange(cores, 1, 16);
        checkRange(watts, 1, 9);
        if (home.machines.size() >= MOST_IN_RACK || machines.size() >= MOST_MACHINES) {
            throw new IllegalStateException("there is no place for a machine");
        }
        int number = machines.size();
        Machine machine = new Machine(number, home, cores, watts);
        home.machines.add(machine);
        machines.add(machine);
        lookAtPower();
        return number;
    }

    public int setCooling(int aisle, int cold) throws IllegalArgumentException {
        checkRange(aisle, 0, AISLES - 1);
        checkRange(cold, 0, 300);
        int before = aisles[aisle].cooling;
        aisles[aisle].cooling = cold;
        return before;
    }

    public int setBattery(int feed, int charge) throws IllegalArgumentException {
        checkRange(feed, 0, FEEDS - 1);
        checkRange(charge, 0, 2000);
        int before = feeds[feed].charge;
        feeds[feed].charge = charge;
        feeds[feed].greatest = charge;
        lookAtPower();
        return before;
    }

    public boolean setMains(int feed, boolean isOn) throws IllegalArgumentException {
        checkRange(feed, 0, FEEDS - 1);
        boolean before = feeds[feed].hasMains;
        feeds[feed].hasMains = isOn;
        lookAtPower();
        return before;
    }

    // ---- jobs and volumes

    public int setQuota(int tenant, int cores) throws IllegalArgumentException {
        checkRange(tenant, 0, TENANTS - 1);
        checkRange(cores, 0, 400);
        int before = tenants[tenant].quota;
        tenants[tenant].quota = cores;
        if (cores < before) {
            tenants[tenant].wasLessened = true;
        }
        return before;
    }

    public int submit(int tenant, int parts, int cores, int hours, int group)
            throws IllegalArgumentException, IllegalStateException {
        checkRange(tenant, 0, TENANTS - 1);
        checkRange(parts, 1, 6);
        checkRange(cores, 1, 8);
        checkRange(hours, 1, 40);
        checkRange(group, -1, 9);
        if (jobs.size() >= MOST_JOBS) {
            throw new IllegalStateException("there were 40 jobs");
        }
        jobs.add(new Job(tenants[tenant], parts, cores, hours, group));
        return jobs.size() - 1;
    }

    public int store(int copies, int size)
            throws IllegalArgumentException, IllegalStateException, UnsupportedOperationException {
        checkRange(copies, 1, 3);
        checkRange(size, 1, 9);
        if (volumes.size() >= MOST_VOLUMES) {
            throw new IllegalStateException("there were 20 volumes");
        }
        // Each copy takes one rack and leaves the others as they are, so counting racks tells ahead.
        if (countRacksFor(size) < copies) {
            throw new UnsupportedOperationException("there are not as many machines for copies");
        }
        Volume volume = new Volume(copies, size);
        volumes.add(volume);
        for (int i = 0; i < copies; i++) {
            addCopy(volume);
        }
        return volumes.size() - 1;
    }

    public int cancel(int job) throws IndexOutOfBoundsException, IllegalStateException {
        Job ended = jobAt(job);
        if (ended.state == DONE || ended.state == CANCELLED) {
            throw new IllegalStateException("the job is over");
        }
        int ran = ended.state == RUNS ? ended.places.length : 0;
        ended.stopAs(CANCELLED);
        lookAtPower();
        return ran;
    }

    // ---- works and faults

    public int drain(int machine, boolean isDrained) throws IndexOutOfBoundsException, IllegalStateException {
        Machine drained = machineAt(machine);
        if (drained.state == FAILED) {
            throw new IllegalStateException("the machine has failed");
        }
        int before = drained.isDrained ? 1 : 0;
        drained.isDrained = isDrained;
        return before;
    }

    public int turnOff(int machine)
            throws IndexOutOfBoundsException, IllegalStateException, UnsupportedOperationException {
        Machine turned = machineAt(machine);
        if (turned.state == OFF || turned.state == FAILED) {
            throw new IllegalStateException("the machine is off or has failed");
        }
        if (isNeededForCopies(turned)) {
            throw new UnsupportedOperationException("a volume has no other copy on a machine that is on");
        }
        int ran = countPartsOn(turned);
        stopPartsOn(turned);
        turned.state = OFF;
        lookAtPower();
        return ran;
    }

    public int turnOn(int machine) throws IndexOutOfBoundsException, IllegalStateException {
        Machine turned = machineAt(machine);
        if (turned.state != OFF && turned.state != HOT) {
            throw new IllegalStateException("the machine is neither off nor shut down by heat");
        }
        turned.state = STARTS;
        lookAtPower();
        return now + 1;
    }

    public int pull(int machine, int feed, boolean isIn)
            throws IndexOutOfBoundsException, IllegalArgumentException, UnsupportedOperationException {
        Machine pulled = machineAt(machine);
        checkRange(feed, 0, FEEDS - 1);
        if (!isIn && isLastPower(pulled, feed) && pulled.taken > 0) {
            throw new UnsupportedOperationException("parts run by the power of this feed alone");
        }
        pulled.isIn[feed] = isIn;
        lookAtPower();
        return pulled.countFeeds();
    }

    public int fail(int machine) throws IndexOutOfBoundsException, IllegalStateException {
        Machine failed = machineAt(machine);
        if (failed.state == FAILED) {
            throw new IllegalStateException("the machine has failed");
        }
        int lost = countPartsOn(failed);
        stopPartsOn(failed);
        failed.state = FAILED;
        failed.isDrained = false;
        int cause = log.raise('f', machine, NO_CAUSE);
        lost += loseCopiesOn(failed, cause);
        lookAtPower();
        return lost;
    }

    public int repair(int machine) throws IndexOutOfBoundsException, IllegalStateException {
        Machine broken = machineAt(machine);
        if (broken.state != FAILED || hasTicket(broken)) {
            throw new IllegalStateException("the machine has not failed, or has a ticket");
        }
        ticketed.add(broken);
        return ticketed.size();
    }

    public int resetBreaker(int rack, int feed)
            throws IndexOutOfBoundsException, IllegalArgumentException, IllegalStateException {
        Rack reset = rackAt(rack);
        checkRange(feed, 0, FEEDS - 1);
        if (!reset.isTripped[feed]) {
            throw new IllegalStateException("the breaker has not tripped");
        }
        reset.isTripped[feed] = false;
        lookAtPower();
        return drawOf(reset, feed);
    }

    public int setCrew(int people, int spares) throws IllegalArgumentException {
        checkRange(people, 0, 5);
        checkRange(spares, 0, 50);
        int before = this.spares;
        this.people = people;
        this.spares = spares;
        return before;
    }

    public int pass(int hours) throws IllegalArgumentException, IllegalStateException {
        checkRange(hours, 1, 24);
        if (now + hours > LAST_HOUR) {
            throw new IllegalStateException("the hour would be greater than 2000");
        }
        for (int i = 0; i < hours; i++) {
            endStarts();
            useBatteries();
            lookAtPower();
            changeHeats();
            followHeats();
            lookAtPower();
            runJobs();
            doTickets();
            renewCopies();
            moveCopies();
            placeJobs();
            now++;
            lookAtPower();
        }
        return now;
    }

    // ---- what there is

    public int hour() {
        return now;
    }

    public char stateOf(int machine) throws IndexOutOfBoundsException {
        return machineAt(machine).state;
    }

    public int load(int machine) throws IndexOutOfBoundsException {
        return machineAt(machine).taken;
    }

    public int stored(int machine) throws IndexOutOfBoundsException {
        return machineAt(machine).filled;
    }

    public int heat(int aisle) throws IllegalArgumentException {
        checkRange(aisle, 0, AISLES - 1);
        return aisles[aisle].heat;
    }

    public int draw(int rack, int feed) throws IndexOutOfBoundsException, IllegalArgumentException {
        Rack asked = rackAt(rack);
        checkRange(feed, 0, FEEDS - 1);
        return drawOf(asked, feed);
    }

    public boolean hasTripped(int rack, int feed) throws IndexOutOfBoundsException, IllegalArgumentException {
        Rack asked = rackAt(rack);
        checkRange(feed, 0, FEEDS - 1);
        return asked.isTripped[feed];
    }

    public int charge(int feed) throws IllegalArgumentException {
        checkRange(feed, 0, FEEDS - 1);
        return feeds[feed].charge;
    }

    public char jobState(int job) throws IndexOutOfBoundsException {
        return jobAt(job).state;
    }

    public int machineOf(int job, int part) throws IndexOutOfBoundsException, NoSuchElementException {
        Job asked = jobAt(job);
        if (part < 0 || part >= asked.places.length) {
            throw new IndexOutOfBoundsException("there is no such part");
        }
        Machine place = asked.places[part];
        if (place == null) {
            throw new NoSuchElementException("the part does not run");
        }
        return place.number;
    }

    public int left(int job) throws IndexOutOfBoundsException {
        return jobAt(job).hoursLeft;
    }

    public int used(int tenant) throws IllegalArgumentException {
        checkRange(tenant, 0, TENANTS - 1);
        return tenants[tenant].taken;
    }

    public int copies(int volume) throws IndexOutOfBoundsException {
        return volumeAt(volume).holders.size();
    }

    public boolean isLost(int volume) throws IndexOutOfBoundsException {
        return volumeAt(volume).holders.isEmpty();
    }

    public int alarms() {
        return log.raised;
    }

    public char alarm(int index) throws IndexOutOfBoundsException {
        return log.kinds[slotOf(index)];
    }

    public int alarmOf(int index) throws IndexOutOfBoundsException {
        return log.abouts[slotOf(index)];
    }

    public int causeOf(int index) throws IndexOutOfBoundsException {
        int cause = log.causes[slotOf(index)];
        int back = log.raised - 1 - cause;
        return cause != NO_CAUSE && log.isKept(back) ? back : index;
    }

    // ---- figures

    public boolean isSafe() {
        for (int i = 0; i < volumes.size(); i++) {
            if (volumes.get(i).holders.size() == 1) {
                return false;
            }
        }
        // Mains that go off take from each rack nothing that its breaker would not take by
        // tripping, and racks do not weigh on one another, so the breakers stand for mains too.
        for (int i = 0; i < racks.size(); i++) {
            Rack rack = racks.get(i);
            if (rack.wouldStopParts(isLive(rack, 0), false) || rack.wouldStopParts(false, isLive(rack, 1))) {
                return false;
            }
        }
        return true;
    }

    public long bill(int tenant) throws IllegalArgumentException {
        checkRange(tenant, 0, TENANTS - 1);
        return tenants[tenant].owes;
    }

    public int tickets() {
        return ticketed.size();
    }

    public float fullness() throws ArithmeticException {
        int taken = 0;
        int all = 0;
        for (int i = 0; i < machines.size(); i++) {
            Machine machine = machines.get(i);
            if (machine.state == ON) {
                taken += machine.taken;
                all += machine.cores;
            }
        }
        if (all == 0) {
            throw new ArithmeticException("no machine is on");
        }
        return (float) taken / (float) all;
    }

    public double meanHeat() throws ArithmeticException {
        int sum = 0;
        int count = 0;
        for (int i = 0; i < aisles.length; i++) {
            if (hasRacks(i)) {
                sum += aisles[i].heat;
                count++;
            }
        }
        if (count == 0) {
            throw new ArithmeticException("there are no racks");
        }
        return (double) sum / (double) count;
    }

    public boolean isSound() {
        return areLoadsSound() && areGroupsApart() && areBreakersSound() && areCopiesApart() && areQuotasKept();
    }

    // What the arguments must be.

    private static void checkRange(int value, int least, int most) {
        if (value < least || value > most) {
            throw new IllegalArgumentException("a number is out of range");
        }
    }

    private Rack rackAt(int number) {
        if (number < 0 || number >= racks.size()) {
            throw new IndexOutOfBoundsException("there is no such rack");
        }
        return racks.get(number);
    }

    private Machine machineAt(int number) {
        if (number < 0 || number >= machines.size()) {
            throw new IndexOutOfBoundsException("there is no such machine");
        }
        return machines.get(number);
    }

    private Job jobAt(int number) {
        if (number < 0 || number >= jobs.size()) {
            throw new IndexOutOfBoundsException("there is no such job");
        }
        return jobs.get(number);
    }

    private Volume volumeAt(int number) {
        if (number < 0 || number >= volumes.size()) {
            throw new IndexOutOfBoundsException("there is no such volume");
        }
        return volumes.get(number);
    }

    private int slotOf(int index) {
        if (!log.isKept(index)) {
            throw new IndexOutOfBoundsException("the alarm is not kept");
        }
        return log.slotBack(index);
    }

    // Power.

    private boolean isLive(Rack rack, int feed) {
        return !rack.isTripped[feed] && feeds[feed].givesPower();
    }

    private int drawOf(Rack rack, int feed) {
        return rack.drawBy(feed, isLive(rack, 0), isLive(rack, 1));
    }

    private boolean hasPower(Machine machine) {
        return machine.getsPower(isLive(machine.rack, 0), isLive(machine.rack, 1));
    }

    private boolean isLastPower(Machine machine, int feed) {
        boolean isLive0 = isLive(machine.rack, 0);
        boolean isLive1 = isLive(machine.rack, 1);
        return machine.getsPower(isLive0, isLive1)
                && !machine.getsPower(isLive0 && feed != 0, isLive1 && feed != 1);
    }

    private void lookAtPower() {
        boolean hasChanged = true;
        for (int round = 0; hasChanged && round < MOST_ROUNDS; round++) {
            tripBreakers();
            hasChanged = lookAtMachines();
        }
    }

    private void tripBreakers() {
        boolean hasChanged = true;
        for (int round = 0; hasChanged && round < MOST_ROUNDS; round++) {
            hasChanged = false;
            for (int i = 0; i < racks.size(); i++) {
                for (int feed = 0; feed < FEEDS; feed++) {
                    Rack rack = racks.get(i);
                    if (drawOf(rack, feed) > rack.bears) {
                        rack.isTripped[feed] = true;
                        rack.tripAlarms[feed] = log.raise('b', FEEDS * i + feed, NO_CAUSE);
                        hasChanged = true;
                    }
                }
            }
        }
    }

    private boolean lookAtMachines() {
        boolean hasChanged = false;
        for (int i = 0; i < machines.size(); i++) {
            Machine machine = machines.get(i);
            boolean isPowered = hasPower(machine);
            if (machine.isOnOrStarts() && !isPowered) {
                stopPartsOn(machine);
                machine.state = STARVED;
                log.raise('p', i, machine.rack.lastTripAlarm());
                hasChanged = true;
            } else if (machine.state == STARVED && isPowered) {
                machine.state = ON;
                hasChanged = true;
            }
        }
        return hasChanged;
    }

    // An hour, step by step.

    private void endStarts() {
        for (int i = 0; i < machines.size(); i++) {
            Machine machine = machines.get(i);
            if (machine.state == STARTS && hasPower(machine)) {
                machine.state = ON;
            }
        }
    }

    // What is drawn is counted ahead of any charge that changes, since a battery that runs out
    // leaves what it bore to the other feed in the next step alone.
    private void useBatteries() {
        for (int i = 0; i < feeds.length; i++) {
            feeds[i].drawn = drawOfAll(i);
        }
        for (int i = 0; i < feeds.length; i++) {
            feeds[i].useHour();
        }
    }

    private int drawOfAll(int feed) {
        int sum = 0;
        for (int i = 0; i < racks.size(); i++) {
            sum += drawOf(racks.get(i), feed);
        }
        return sum;
    }

    private void changeHeats() {
        for (int i = 0; i < aisles.length; i++) {
            aisles[i].nextHeat = nextHeatOf(i);
        }
        for (int i = 0; i < aisles.length; i++) {
            aisles[i].heat = aisles[i].nextHeat;
        }
    }

    private int nextHeatOf(int number) {
        int heat = aisles[number].heat;
        int warming = (drawIn(number) - aisles[number].cooling) / 10;
        int lead = 0;
        if (number > 0) {
            lead += aisles[number - 1].heat - heat;
        }
        if (number + 1 < aisles.length) {
            lead += aisles[number + 1].heat - heat;
        }
        return Math.max(LEAST_HEAT, heat + warming + lead / 4);
    }

    private int drawIn(int aisle) {
        int sum = 0;
        for (int i = 0; i < machines.size(); i++) {
            Machine machine = machines.get(i);
            if (machine.rack.aisle == aisle && hasPower(machine)) {
                sum += machine.needs();
            }
        }
        return sum;
    }

    private void followHeats() {
        for (int i = 0; i < aisles.length; i++) {
            if (aisles[i].heat >= HEAT_TO_SHUT_DOWN) {
                shutDown(i);
            } else if (aisles[i].heat <= HEAT_TO_COME_ON) {
                comeOn(i);
            }
        }
    }

    private void shutDown(int aisle) {
        boolean hasShutDown = false;
        for (int i = 0; i < machines.size(); i++) {
            Machine machine = machines.get(i);
            if (machine.rack.aisle == aisle && machine.isOnOrStarts()) {
                stopPartsOn(machine);
                machine.state = HOT;
                hasShutDown = true;
            }
        }
        if (hasShutDown) {
            log.raise('h', aisle, NO_CAUSE);
        }
    }

    private void comeOn(int aisle) {
        for (int i = 0; i < machines.size(); i++) {
            Machine machine = machines.get(i);
            if (machine.rack.aisle == aisle && machine.state == HOT) {
                machine.state = ON;
            }
        }
    }

    private void runJobs() {
        int hourOfDay = now % HOURS_OF_DAY;
        int price = hourOfDay >= 8 && hourOfDay <= 19 ? 3 : 1;
        for (int i = 0; i < jobs.size(); i++) {
            Job job = jobs.get(i);
            if (job.state == RUNS) {
                job.hoursLeft--;
                job.tenant.owes += job.countCores() * price;
                if (job.hoursLeft == 0) {
                    job.stopAs(DONE);
                }
            }
        }
    }

    private void doTickets() {
        for (int done = 0; done < people && spares > 0 && !ticketed.isEmpty(); done++) {
            Machine machine = ticketed.remove(0);
            machine.state = OFF;
            machine.isIn[0] = true;
            machine.isIn[1] = true;
            spares--;
        }
    }

    private boolean hasTicket(Machine machine) {
        for (int i = 0; i < ticketed.size(); i++) {
            if (ticketed.get(i) == machine) {
                return true;
            }
        }
        return false;
    }

    // Volumes.

    private int countRacksFor(int size) {
        int count = 0;
        for (int i = 0; i < racks.size(); i++) {
            if (racks.get(i).hasRoomFor(size)) {
                count++;
            }
        }
        return count;
    }

    private void addCopy(Volume volume) {
        Machine holder = holderFor(volume, null);
        if (holder != null) {
            volume.putOn(holder);
        }
    }

    private Machine holderFor(Volume volume, Machine aside) {
        Machine best = null;
        for (int i = 0; i < machines.size(); i++) {
            Machine machine = machines.get(i);
            if (machine.hasRoomFor(volume.size) && !volume.isInRack(machine.rack, aside)
                    && (best == null || machine.filled < best.filled)) {
                best = machine;
            }
        }
        return best;
    }

    private void renewCopies() {
        for (int i = 0; i < volumes.size(); i++) {
            Volume volume = volumes.get(i);
            if (volume.holders.size() < volume.wanted && volume.isOnBeside(null)) {
                addCopy(volume);
            }
        }
    }

    private void moveCopies() {
        for (int i = 0; i < machines.size(); i++) {
            Machine machine = machines.get(i);
            if (machine.isDrained && machine.state == ON) {
                moveCopyFrom(machine);
            }
        }
    }

    private void moveCopyFrom(Machine machine) {
        for (int i = 0; i < volumes.size(); i++) {
            Volume volume = volumes.get(i);
            if (volume.isHeldBy(machine)) {
                Machine holder = holderFor(volume, machine);
                if (holder != null) {
                    volume.takeFrom(machine);
                    volume.putOn(holder);
                    return;
                }
            }
        }
    }

    private int loseCopiesOn(Machine machine, int cause) {
        int lost = 0;
        for (int i = 0; i < volumes.size(); i++) {
            Volume volume = volumes.get(i);
            if (volume.isHeldBy(machine)) {
                volume.takeFrom(machine);
                lost++;
                if (volume.holders.isEmpty()) {
                    log.raise('l', i, cause);
                } else if (volume.holders.size() == 1) {
                    log.raise('v', i, cause);
                }
            }
        }
        return lost;
    }

    private boolean isNeededForCopies(Machine machine) {
        for (int i = 0; i < volumes.size(); i++) {
            Volume volume = volumes.get(i);
            if (volume.isHeldBy(machine) && !volume.isOnBeside(machine)) {
                return true;
            }
        }
        return false;
    }

    // Jobs.

    private int countPartsOn(Machine machine) {
        int count = 0;
        for (int i = 0; i < jobs.size(); i++) {
            count += jobs.get(i).countPartsOn(machine);
        }
        return count;
    }

    private void stopPartsOn(Machine machine) {
        for (int i = 0; i < jobs.size(); i++) {
            Job job = jobs.get(i);
            if (job.countPartsOn(machine) > 0) {
                job.stopAs(WAITS);
            }
        }
    }

    private void placeJobs() {
        boolean isPlaced = true;
        for (int round = 0; isPlaced && round <= MOST_JOBS; round++) {
            isPlaced = false;
            markCandidates();
            Job next = nextCandidate();
            for (int i = 0; next != null && !isPlaced && i < MOST_JOBS; i++) {
                next.isCandidate = false;
                isPlaced = place(next);
                next = nextCandidate();
            }
        }
    }

    // A job beyond its quota is none: so no quota of 0 is ever divided by.
    private void markCandidates() {
        for (int i = 0; i < jobs.size(); i++) {
            Job job = jobs.get(i);
            job.isCandidate = job.state == WAITS && job.tenant.taken + job.countCores() <= job.tenant.quota;
        }
    }

    private Job nextCandidate() {
        Job next = null;
        for (int i = 0; i < jobs.size(); i++) {
            Job job = jobs.get(i);
            if (job.isCandidate && (next == null || job.tenant.usesLessThan(next.tenant))) {
                next = job;
            }
        }
        return next;
    }

    private boolean place(Job job) {
        for (int part = 0; part < job.places.length; part++) {
            Machine machine = machineFor(job);
            if (machine == null) {
                job.clearPlaces();
                return false;
            }
            job.places[part] = machine;
            machine.taken += job.cores;
        }
        job.state = RUNS;
        job.tenant.taken += job.countCores();
        return true;
    }

    private Machine machineFor(Job job) {
        Machine best = null;
        for (int i = 0; i < machines.size(); i++) {
            Machine machine = machines.get(i);
            if ((best == null || machine.taken < best.taken) && canTakePart(machine, job)) {
                best = machine;
            }
        }
        return best;
    }

    private boolean canTakePart(Machine machine, Job job) {
        Rack rack = machine.rack;
        return machine.isOpen() && machine.cores - machine.taken >= job.cores
                && (isLive(rack, 0) || isLive(rack, 1))
                && rack.needs() + job.cores * machine.watts <= rack.bears
                && (job.group < 0 || countPartsIn(rack, job.group) == 0);
    }

    private int countPartsIn(Rack rack, int group) {
        int count = 0;
        for (int i = 0; i < jobs.size(); i++) {
            if (jobs.get(i).group == group) {
                count += jobs.get(i).countPartsIn(rack);
            }
        }
        return count;
    }

    // Figures.

    private boolean hasRacks(int aisle) {
        for (int i = 0; i < racks.size(); i++) {
            if (racks.get(i).aisle == aisle) {
                return true;
            }
        }
        return false;
    }

    private boolean areLoadsSound() {
        for (int i = 0; i < machines.size(); i++) {
            Machine machine = machines.get(i);
            if (machine.taken > machine.cores || (machine.taken > 0 && machine.state != ON)) {
                return false;
            }
        }
        return true;
    }

    private boolean areGroupsApart() {
        for (int i = 0; i < jobs.size(); i++) {
            int group = jobs.get(i).group;
            for (int j = 0; group >= 0 && j < racks.size(); j++) {
                if (countPartsIn(racks.get(j), group) > 1) {
                    return false;
                }
            }
        }
        return true;
    }

    private boolean areBreakersSound() {
        for (int i = 0; i < racks.size(); i++) {
            Rack rack = racks.get(i);
            if (drawOf(rack, 0) > rack.bears || drawOf(rack, 1) > rack.bears) {
                return false;
            }
        }
        return true;
    }

    private boolean areCopiesApart() {
        for (int i = 0; i < volumes.size(); i++) {
            Volume volume = volumes.get(i);
            for (int j = 0; j < volume.holders.size(); j++) {
                Machine holder = volume.holders.get(j);
                if (volume.isInRack(holder.rack, holder)) {
                    return false;
                }
            }
        }
        return true;
    }

    private boolean areQuotasKept() {
        for (int i = 0; i < tenants.length; i++) {
            if (tenants[i].taken > tenants[i].quota && !tenants[i].wasLessened) {
                return false;
            }
        }
        return true;
    }

    private static final class Feed {
        boolean hasMains = true;
        int charge = 300;
        int greatest = 300;
        int drawn = 0;

        boolean givesPower() {
            return hasMains || charge > 0;
        }

        void useHour() {
            charge = hasMains ? Math.min(greatest, charge + CHARGED_IN_HOUR) : Math.max(0, charge - drawn);
        }
    }

    private static final class Aisle {
        int cooling = 60;
        int heat = LEAST_HEAT;
        int nextHeat = LEAST_HEAT;
    }

    private static final class Tenant {
        int quota = 40;
        boolean wasLessened = false;
        int taken = 0;
        long owes = 0;

        // Multiplied crosswise, since the fractions are to be exact.
        boolean usesLessThan(Tenant other) {
            return taken * other.quota < other.taken * quota;
        }
    }

    private static final class Rack {
        final int aisle;
        final int bears;
        final boolean[] isTripped = new boolean[FEEDS];
        final int[] tripAlarms = new int[FEEDS];
        final ArrayList<Machine> machines = new ArrayList<Machine>();

        Rack(int aisle, int bears) {
            this.aisle = aisle;
            this.bears = bears;
        }

        int needs() {
            int sum = 0;
            for (int i = 0; i < machines.size(); i++) {
                sum += machines.get(i).needs();
            }
            return sum;
        }

        int drawBy(int feed, boolean isLive0, boolean isLive1) {
            int sum = 0;
            for (int i = 0; i < machines.size(); i++) {
                sum += machines.get(i).drawBy(feed, isLive0, isLive1);
            }
            return sum;
        }

        // One feed is left at the most: it bears all there is, or trips at once.
        boolean wouldStopParts(boolean isLive0, boolean isLive1) {
            boolean bears0 = isLive0 && drawBy(0, isLive0, isLive1) <= bears;
            boolean bears1 = isLive1 && drawBy(1, isLive0, isLive1) <= bears;
            for (int i = 0; i < machines.size(); i++) {
                if (machines.get(i).taken > 0 && !machines.get(i).getsPower(bears0, bears1)) {
                    return true;
                }
            }
            return false;
        }

        int lastTripAlarm() {
            int last = NO_CAUSE;
            for (int feed = 0; feed < FEEDS; feed++) {
                if (isTripped[feed] && tripAlarms[feed] > last) {
                    last = tripAlarms[feed];
                }
            }
            return last;
        }

        boolean hasRoomFor(int size) {
            for (int i = 0; i < machines.size(); i++) {
                if (machines.get(i).hasRoomFor(size)) {
                    return true;
                }
            }
            return false;
        }
    }

    private static final class Machine {
        final int number;
        final Rack rack;
        final int cores;
        final int watts;
        final boolean[] isIn = {true, true};
        char state = ON;
        boolean isDrained = false;
        int taken = 0;
        int filled = 0;

        Machine(int number, Rack rack, int cores, int watts) {
            this.number = number;
            this.rack = rack;
            this.cores = cores;
            this.watts = watts;
        }

        boolean isOnOrStarts() {
            return state == ON || state == STARTS;
        }

        boolean isOpen() {
            return state == ON && !isDrained;
        }

        boolean hasRoomFor(int size) {
            return isOpen() && ROOM - filled >= size;
        }

        int needs() {
            if (state == ON) {
                return BASE_WATTS + watts * taken;
            }
            return state == STARTS ? BASE_WATTS : 0;
        }

        boolean getsPower(boolean isLive0, boolean isLive1) {
            return (isIn[0] && isLive0) || (isIn[1] && isLive1);
        }

        int drawBy(int feed, boolean isLive0, boolean isLive1) {
            boolean gets0 = isIn[0] && isLive0;
            boolean gets1 = isIn[1] && isLive1;
            if (gets0 && gets1) {
                return feed == 0 ? needs() - needs() / 2 : needs() / 2;
            }
            boolean getsAll = feed == 0 ? gets0 : gets1;
            return getsAll ? needs() : 0;
        }

        int countFeeds() {
            return (isIn[0] ? 1 : 0) + (isIn[1] ? 1 : 0);
        }
    }

    private static final class Job {
        final Tenant tenant;
        final int cores;
        final int group;
        final Machine[] places;
        int hoursLeft;
        char state = WAITS;
        boolean isCandidate = false;

        Job(Tenant tenant, int parts, int cores, int hours, int group) {
            this.tenant = tenant;
            this.cores = cores;
            this.group = group;
            this.places = new Machine[parts < 1 ? 1 : parts];
            this.hoursLeft = hours;
        }

        int countCores() {
            return places.length * cores;
        }

        int countPartsOn(Machine machine) {
            int count = 0;
            for (int i = 0; i < places.length; i++) {
                if (places[i] == machine) {
                    count++;
                }
            }
            return count;
        }

        int countPartsIn(Rack rack) {
            int count = 0;
            for (int i = 0; i < places.length; i++) {
                Machine place = places[i];
                if (place != null && place.rack == rack) {
                    count++;
                }
            }
            return count;
        }

        void clearPlaces() {
            for (int i = 0; i < places.length; i++) {
                Machine place = places[i];
                if (place != null) {
                    place.taken -= cores;
                    places[i] = null;
                }
            }
        }

        void stopAs(char stateThen) {
            if (state == RUNS) {
                clearPlaces();
                tenant.taken -= countCores();
            }
            state = stateThen;
        }
    }

    private static final class Volume {
        final int wanted;
        final int size;
        final ArrayList<Machine> holders = new ArrayList<Machine>();

        Volume(int wanted, int size) {
            this.wanted = wanted;
            this.size = size;
        }

        boolean isHeldBy(Machine machine) {
            for (int i = 0; i < holders.size(); i++) {
                if (holders.get(i) == machine) {
                    return true;
                }
            }
            return false;
        }

        boolean isInRack(Rack rack, Machine aside) {
            for (int i = 0; i < holders.size(); i++) {
                Machine holder = holders.get(i);
                if (holder != aside && holder.rack == rack) {
                    return true;
                }
            }
            return false;
        }

        boolean isOnBeside(Machine aside) {
            for (int i = 0; i < holders.size(); i++) {
                Machine holder = holders.get(i);
                if (holder != aside && holder.state == ON) {
                    return true;
                }
            }
            return false;
        }

        void putOn(Machine machine) {
            holders.add(machine);
            machine.filled += size;
        }

        void takeFrom(Machine machine) {
            for (int i = 0; i < holders.size(); i++) {
                if (holders.get(i) == machine) {
                    holders.remove(i);
                    machine.filled -= size;
                    return;
                }
            }
        }
    }

    // The oldest alarms give their rows to the newest.
    private static final class AlarmLog {
        final char[] kinds = new char[KEPT_ALARMS];
        final int[] abouts = new int[KEPT_ALARMS];
        final int[] causes = new int[KEPT_ALARMS];
        int raised = 0;

        int raise(char kind, int about, int cause) {
            int slot = raised % KEPT_ALARMS;
            kinds[slot] = kind;
            abouts[slot] = about;
            causes[slot] = cause;
            raised++;
            return raised - 1;
        }

        boolean isKept(int index) {
            return index >= 0 && index < KEPT_ALARMS && index < raised;
        }

        int slotBack(int index) {
            return (raised - 1 - index) % KEPT_ALARMS;
        }
    }
}
