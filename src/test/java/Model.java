import java.util.ArrayList;
import java.util.Arrays;
import java.util.List;
import java.util.NoSuchElementException;
import java.util.TreeSet;

/** The document acted out a second time: nothing is kept that can be counted anew, and each fault is done on a copy. */
final class Model {
    private static final class Rack {
        int aisle;
        int bears;
        boolean[] isTripped = {false, false};
    }

    private static final class Machine {
        int rack;
        int cores;
        int watts;
        char state = '+';
        boolean isDrained = false;
        boolean[] isIn = {true, true};

        boolean isOnOrStarts() {
            return state == '+' || state == 's';
        }
    }

    private static final class Job {
        int tenant;
        int cores;
        int group;
        int left;
        char state = 'w';
        int[] at;

        boolean hasPartOn(int machine) {
            return countPartsOn(machine) > 0;
        }

        int countPartsOn(int machine) {
            int count = 0;
            for (int place : at) {
                count += place == machine ? 1 : 0;
            }
            return count;
        }

        void leave(char stateThen) {
            state = stateThen;
            Arrays.fill(at, -1);
        }
    }

    private static final class Volume {
        int wanted;
        int size;
        TreeSet<Integer> holders = new TreeSet<>();
    }

    private record Alarm(char kind, int about, int cause) {
    }

    private final List<Rack> racks = new ArrayList<>();
    private final List<Machine> machines = new ArrayList<>();
    private final List<Job> jobs = new ArrayList<>();
    private final List<Volume> volumes = new ArrayList<>();
    private final List<Integer> tickets = new ArrayList<>();
    private final List<Alarm> alarms = new ArrayList<>();
    private final int[] cooling = {60, 60, 60};
    private int[] heat = {20, 20, 20};
    private final int[] charge = {300, 300};
    private final int[] greatest = {300, 300};
    private final boolean[] mains = {true, true};
    private final int[] quota = {40, 40, 40, 40};
    private final long[] bill = new long[4];
    private int people = 1;
    private int spares = 4;
    private int hour = 0;

    // ---- the hall

    int addRack(int aisle, int breaker) {
        argument(isIn(aisle, 0, 2) && isIn(breaker, 10, 200));
        state(racks.size() < 8);
        Rack rack = new Rack();
        rack.aisle = aisle;
        rack.bears = breaker;
        racks.add(rack);
        return racks.size() - 1;
    }

    int addMachine(int rack, int cores, int watts) {
        index(rack, racks);
        argument(isIn(cores, 1, 16) && isIn(watts, 1, 9));
        state(machinesOf(rack).size() < 4 && machines.size() < 24);
        Machine machine = new Machine();
        machine.rack = rack;
        machine.cores = cores;
        machine.watts = watts;
        machines.add(machine);
        power();
        return machines.size() - 1;
    }

    int setCooling(int aisle, int cold) {
        argument(isIn(aisle, 0, 2) && isIn(cold, 0, 300));
        int before = cooling[aisle];
        cooling[aisle] = cold;
        return before;
    }

    int setBattery(int feed, int charged) {
        argument(isIn(feed, 0, 1) && isIn(charged, 0, 2000));
        int before = charge[feed];
        charge[feed] = charged;
        greatest[feed] = charged;
        power();
        return before;
    }

    boolean setMains(int feed, boolean isOn) {
        argument(isIn(feed, 0, 1));
        boolean before = mains[feed];
        mains[feed] = isOn;
        power();
        return before;
    }

    // ---- jobs and volumes

    int setQuota(int tenant, int cores) {
        argument(isIn(tenant, 0, 3) && isIn(cores, 0, 400));
        int before = quota[tenant];
        quota[tenant] = cores;
        return before;
    }

    int submit(int tenant, int parts, int cores, int hours, int group) {
        argument(isIn(tenant, 0, 3) && isIn(parts, 1, 6) && isIn(cores, 1, 8) && isIn(hours, 1, 40) && isIn(group, -1, 9));
        state(jobs.size() < 40);
        Job job = new Job();
        job.tenant = tenant;
        job.at = new int[parts];
        job.cores = cores;
        job.left = hours;
        job.group = group;
        job.leave('w');
        jobs.add(job);
        return jobs.size() - 1;
    }

    int store(int copies, int size) {
        argument(isIn(copies, 1, 3) && isIn(size, 1, 9));
        state(volumes.size() < 20);
        Volume volume = new Volume();
        volume.wanted = copies;
        volume.size = size;
        volumes.add(volume);
        for (int i = 0; i < copies; i++) {
            int holder = holderFor(volume, -1);
            if (holder < 0) {
                volumes.remove(volume);
                throw new UnsupportedOperationException();
            }
            volume.holders.add(holder);
        }
        return volumes.size() - 1;
    }

    int cancel(int number) {
        index(number, jobs);
        Job job = jobs.get(number);
        state(job.state == 'w' || job.state == 'r');
        int ran = job.state == 'r' ? job.at.length : 0;
        job.leave('c');
        power();
        return ran;
    }

    // ---- works and faults

    int drain(int number, boolean isDrained) {
        index(number, machines);
        Machine machine = machines.get(number);
        state(machine.state != 'f');
        int before = machine.isDrained ? 1 : 0;
        machine.isDrained = isDrained;
        return before;
    }

    int turnOff(int number) {
        index(number, machines);
        Machine machine = machines.get(number);
        state(machine.state != '-' && machine.state != 'f');
        for (Volume volume : volumes) {
            if (volume.holders.contains(number) && countOn(volume) - (machine.state == '+' ? 1 : 0) == 0) {
                throw new UnsupportedOperationException();
            }
        }
        int ran = countPartsOn(number);
        stop(number, '-');
        power();
        return ran;
    }

    int turnOn(int number) {
        index(number, machines);
        Machine machine = machines.get(number);
        state(machine.state == '-' || machine.state == 'h');
        machine.state = 's';
        power();
        return hour + 1;
    }

    int pull(int number, int feed, boolean isIn) {
        index(number, machines);
        argument(isIn(feed, 0, 1));
        Machine machine = machines.get(number);
        boolean isLast = isFed(machine, feed) && !isFed(machine, 1 - feed);
        if (!isIn && isLast && countPartsOn(number) > 0) {
            throw new UnsupportedOperationException();
        }
        machine.isIn[feed] = isIn;
        power();
        return (machine.isIn[0] ? 1 : 0) + (machine.isIn[1] ? 1 : 0);
    }

    int fail(int number) {
        index(number, machines);
        state(machines.get(number).state != 'f');
        int lost = countPartsOn(number);
        stop(number, 'f');
        machines.get(number).isDrained = false;
        alarms.add(new Alarm('f', number, -1));
        int cause = alarms.size() - 1;
        for (int i = 0; i < volumes.size(); i++) {
            Volume volume = volumes.get(i);
            if (volume.holders.remove(number)) {
                lost++;
                if (volume.holders.isEmpty()) {
                    alarms.add(new Alarm('l', i, cause));
                } else if (volume.holders.size() == 1 && volume.wanted > 1) {
                    alarms.add(new Alarm('v', i, cause));
                }
            }
        }
        power();
        return lost;
    }

    int repair(int number) {
        index(number, machines);
        state(machines.get(number).state == 'f' && !tickets.contains(number));
        tickets.add(number);
        return tickets.size();
    }

    int resetBreaker(int number, int feed) {
        index(number, racks);
        argument(isIn(feed, 0, 1));
        state(racks.get(number).isTripped[feed]);
        racks.get(number).isTripped[feed] = false;
        power();
        return draw(number, feed);
    }

    int setCrew(int crew, int stock) {
        argument(isIn(crew, 0, 5) && isIn(stock, 0, 50));
        int before = spares;
        people = crew;
        spares = stock;
        return before;
    }

    int pass(int hours) {
        argument(isIn(hours, 1, 24));
        state(hour + hours <= 2000);
        for (int i = 0; i < hours; i++) {
            passOne();
        }
        return hour;
    }

    // ---- what there is

    int hour() {
        return hour;
    }

    char stateOf(int machine) {
        index(machine, machines);
        return machines.get(machine).state;
    }

    int load(int machine) {
        index(machine, machines);
        int cores = 0;
        for (Job job : jobs) {
            cores += job.cores * job.countPartsOn(machine);
        }
        return cores;
    }

    int stored(int machine) {
        index(machine, machines);
        int sum = 0;
        for (Volume volume : volumes) {
            sum += volume.holders.contains(machine) ? volume.size : 0;
        }
        return sum;
    }

    int heat(int aisle) {
        argument(isIn(aisle, 0, 2));
        return heat[aisle];
    }

    int draw(int rack, int feed) {
        index(rack, racks);
        argument(isIn(feed, 0, 1));
        int sum = 0;
        for (int i : machinesOf(rack)) {
            Machine machine = machines.get(i);
            if (isFed(machine, feed)) {
                boolean isHalf = isFed(machine, 1 - feed);
                sum += !isHalf ? needs(i) : feed == 0 ? (needs(i) + 1) / 2 : needs(i) / 2;
            }
        }
        return sum;
    }

    boolean hasTripped(int rack, int feed) {
        index(rack, racks);
        argument(isIn(feed, 0, 1));
        return racks.get(rack).isTripped[feed];
    }

    int charge(int feed) {
        argument(isIn(feed, 0, 1));
        return charge[feed];
    }

    char jobState(int job) {
        index(job, jobs);
        return jobs.get(job).state;
    }

    int machineOf(int job, int part) {
        index(job, jobs);
        if (!isIn(part, 0, jobs.get(job).at.length - 1)) {
            throw new IndexOutOfBoundsException();
        }
        if (jobs.get(job).state != 'r') {
            throw new NoSuchElementException();
        }
        return jobs.get(job).at[part];
    }

    int left(int job) {
        index(job, jobs);
        return jobs.get(job).left;
    }

    int used(int tenant) {
        argument(isIn(tenant, 0, 3));
        int cores = 0;
        for (Job job : jobs) {
            cores += job.tenant == tenant && job.state == 'r' ? job.at.length * job.cores : 0;
        }
        return cores;
    }

    int copies(int volume) {
        index(volume, volumes);
        return volumes.get(volume).holders.size();
    }

    boolean isLost(int volume) {
        return copies(volume) == 0;
    }

    int alarms() {
        return alarms.size();
    }

    char alarm(int index) {
        return alarmAt(index).kind();
    }

    int alarmOf(int index) {
        return alarmAt(index).about();
    }

    int causeOf(int index) {
        int cause = alarmAt(index).cause();
        int back = alarms.size() - 1 - cause;
        return cause < 0 || back >= 60 ? index : back;
    }

    // ---- figures

    boolean isSafe() {
        for (int i = 0; i < machines.size(); i++) {
            Model tried = copy();
            if (machines.get(i).state != 'f') {
                tried.fail(i);
            }
            if (tried.countLost() > countLost()) {
                return false;
            }
        }
        for (int feed = 0; feed < 2; feed++) {
            Model dark = copy();
            dark.setMains(feed, false);
            if (dark.countRunning() < countRunning()) {
                return false;
            }
            for (int i = 0; i < racks.size(); i++) {
                Model tripped = copy();
                tripped.racks.get(i).isTripped[feed] = true;
                tripped.power();
                if (tripped.countRunning() < countRunning()) {
                    return false;
                }
            }
        }
        return true;
    }

    long bill(int tenant) {
        argument(isIn(tenant, 0, 3));
        return bill[tenant];
    }

    int tickets() {
        return tickets.size();
    }

    float fullness() {
        int taken = 0;
        int all = 0;
        for (int i = 0; i < machines.size(); i++) {
            taken += machines.get(i).state == '+' ? load(i) : 0;
            all += machines.get(i).state == '+' ? machines.get(i).cores : 0;
        }
        if (all == 0) {
            throw new ArithmeticException();
        }
        return (float) taken / (float) all;
    }

    double meanHeat() {
        TreeSet<Integer> aisles = new TreeSet<>();
        for (Rack rack : racks) {
            aisles.add(rack.aisle);
        }
        if (aisles.isEmpty()) {
            throw new ArithmeticException();
        }
        int sum = 0;
        for (int aisle : aisles) {
            sum += heat[aisle];
        }
        return (double) sum / (double) aisles.size();
    }

    /** By the other promises a hall is always sound. */
    boolean isSound() {
        return true;
    }

    /** How many racks, machines, jobs, volumes or kept alarms there are. */
    int count(String kind) {
        switch (kind) {
            case "rack": return racks.size();
            case "machine": return machines.size();
            case "job": return jobs.size();
            case "volume": return volumes.size();
            default: return Math.min(60, alarms.size());
        }
    }

    // What is refused.

    private static boolean isIn(int value, int least, int most) {
        return value >= least && value <= most;
    }

    private static void argument(boolean isRight) {
        if (!isRight) {
            throw new IllegalArgumentException();
        }
    }

    private static void state(boolean isRight) {
        if (!isRight) {
            throw new IllegalStateException();
        }
    }

    private static void index(int number, List<?> all) {
        if (!isIn(number, 0, all.size() - 1)) {
            throw new IndexOutOfBoundsException();
        }
    }

    private Alarm alarmAt(int index) {
        if (!isIn(index, 0, Math.min(60, alarms.size()) - 1)) {
            throw new IndexOutOfBoundsException();
        }
        return alarms.get(alarms.size() - 1 - index);
    }

    // Power.

    private boolean isLive(int rack, int feed) {
        return !racks.get(rack).isTripped[feed] && (mains[feed] || charge[feed] > 0);
    }

    private boolean isFed(Machine machine, int feed) {
        return machine.isIn[feed] && isLive(machine.rack, feed);
    }

    private boolean hasPower(Machine machine) {
        return isFed(machine, 0) || isFed(machine, 1);
    }

    private int needs(int number) {
        Machine machine = machines.get(number);
        return machine.isOnOrStarts() ? 4 + machine.watts * load(number) : 0;
    }

    private List<Integer> machinesOf(int rack) {
        List<Integer> all = new ArrayList<>();
        for (int i = 0; i < machines.size(); i++) {
            if (machines.get(i).rack == rack) {
                all.add(i);
            }
        }
        return all;
    }

    private void power() {
        do {
            while (tripsOne()) {
                continue;
            }
        } while (starvesOrWakesOne());
    }

    private boolean tripsOne() {
        boolean hasTripped = false;
        for (int i = 0; i < racks.size(); i++) {
            for (int feed = 0; feed < 2; feed++) {
                if (draw(i, feed) > racks.get(i).bears) {
                    racks.get(i).isTripped[feed] = true;
                    alarms.add(new Alarm('b', 2 * i + feed, -1));
                    hasTripped = true;
                }
            }
        }
        return hasTripped;
    }

    private boolean starvesOrWakesOne() {
        boolean hasChanged = false;
        for (int i = 0; i < machines.size(); i++) {
            Machine machine = machines.get(i);
            if (machine.isOnOrStarts() && !hasPower(machine)) {
                stop(i, 'u');
                alarms.add(new Alarm('p', i, lastTripOf(machine.rack)));
                hasChanged = true;
            } else if (machine.state == 'u' && hasPower(machine)) {
                machine.state = '+';
                hasChanged = true;
            }
        }
        return hasChanged;
    }

    private int lastTripOf(int rack) {
        for (int i = alarms.size() - 1; i >= 0; i--) {
            Alarm alarm = alarms.get(i);
            if (alarm.kind() == 'b' && alarm.about() / 2 == rack && racks.get(rack).isTripped[alarm.about() % 2]) {
                return i;
            }
        }
        return -1;
    }

    // An hour.

    private void passOne() {
        endStarts();
        useBatteries();
        power();
        changeHeats();
        for (int aisle = 0; aisle < 3; aisle++) {
            followHeat(aisle);
        }
        power();
        runJobs();
        doTickets();
        renewCopies();
        moveCopies();
        while (placesOne()) {
            continue;
        }
        hour++;
        power();
    }

    private void endStarts() {
        for (Machine machine : machines) {
            if (machine.state == 's' && hasPower(machine)) {
                machine.state = '+';
            }
        }
    }

    private void useBatteries() {
        int[] drawn = new int[2];
        for (int i = 0; i < racks.size(); i++) {
            drawn[0] += draw(i, 0);
            drawn[1] += draw(i, 1);
        }
        for (int feed = 0; feed < 2; feed++) {
            int charged = Math.min(charge[feed] + 50, greatest[feed]);
            int lessened = Math.max(charge[feed] - drawn[feed], 0);
            charge[feed] = mains[feed] ? charged : lessened;
        }
    }

    private void changeHeats() {
        int[] then = new int[3];
        for (int aisle = 0; aisle < 3; aisle++) {
            int drawn = 0;
            for (int i = 0; i < racks.size(); i++) {
                drawn += racks.get(i).aisle == aisle ? draw(i, 0) + draw(i, 1) : 0;
            }
            int more = aisle > 0 ? heat[aisle - 1] - heat[aisle] : 0;
            more += aisle < 2 ? heat[aisle + 1] - heat[aisle] : 0;
            then[aisle] = Math.max(heat[aisle] + (drawn - cooling[aisle]) / 10 + more / 4, 20);
        }
        heat = then;
    }

    private void followHeat(int aisle) {
        boolean hasShutDown = false;
        for (int i = 0; i < machines.size(); i++) {
            Machine machine = machines.get(i);
            boolean isHere = racks.get(machine.rack).aisle == aisle;
            if (isHere && heat[aisle] >= 60 && machine.isOnOrStarts()) {
                stop(i, 'h');
                hasShutDown = true;
            } else if (isHere && heat[aisle] <= 40 && machine.state == 'h') {
                machine.state = '+';
            }
        }
        if (hasShutDown) {
            alarms.add(new Alarm('h', aisle, -1));
        }
    }

    private void runJobs() {
        boolean isDay = hour % 24 >= 8 && hour % 24 <= 19;
        for (Job job : jobs) {
            if (job.state == 'r') {
                job.left -= 1;
                bill[job.tenant] += job.at.length * job.cores * (isDay ? 3 : 1);
                if (job.left == 0) {
                    job.leave('d');
                }
            }
        }
    }

    private void doTickets() {
        for (int i = 0; i < people; i++) {
            if (spares > 0 && !tickets.isEmpty()) {
                Machine machine = machines.get(tickets.remove(0));
                machine.state = '-';
                machine.isIn = new boolean[] {true, true};
                spares--;
            }
        }
    }

    private int countPartsOn(int machine) {
        int count = 0;
        for (Job job : jobs) {
            count += job.countPartsOn(machine);
        }
        return count;
    }

    private void stop(int machine, char stateThen) {
        for (Job job : jobs) {
            if (job.hasPartOn(machine)) {
                job.leave('w');
            }
        }
        machines.get(machine).state = stateThen;
    }

    // Volumes.

    private int countOn(Volume volume) {
        int count = 0;
        for (int holder : volume.holders) {
            count += machines.get(holder).state == '+' ? 1 : 0;
        }
        return count;
    }

    private int holderFor(Volume volume, int aside) {
        int best = -1;
        for (int i = 0; i < machines.size(); i++) {
            Machine machine = machines.get(i);
            boolean isApart = true;
            for (int holder : volume.holders) {
                isApart &= holder == aside || machines.get(holder).rack != machine.rack;
            }
            boolean hasRoom = machine.state == '+' && !machine.isDrained && stored(i) + volume.size <= 12;
            if (isApart && hasRoom && (best < 0 || stored(i) < stored(best))) {
                best = i;
            }
        }
        return best;
    }

    private void renewCopies() {
        for (Volume volume : volumes) {
            int holder = holderFor(volume, -1);
            if (volume.holders.size() < volume.wanted && countOn(volume) > 0 && holder >= 0) {
                volume.holders.add(holder);
            }
        }
    }

    private void moveCopies() {
        for (int i = 0; i < machines.size(); i++) {
            boolean isToMove = machines.get(i).state == '+' && machines.get(i).isDrained;
            for (int j = 0; isToMove && j < volumes.size(); j++) {
                Volume volume = volumes.get(j);
                int holder = holderFor(volume, i);
                if (volume.holders.contains(i) && holder >= 0) {
                    volume.holders.remove(i);
                    volume.holders.add(holder);
                    isToMove = false;
                }
            }
        }
    }

    // Jobs.

    private boolean placesOne() {
        List<Job> waiting = new ArrayList<>();
        for (Job job : jobs) {
            if (job.state == 'w') {
                waiting.add(job);
            }
        }
        waiting.sort((one, other) -> compareShares(one.tenant, other.tenant));
        for (Job job : waiting) {
            if (places(job)) {
                return true;
            }
        }
        return false;
    }

    /** Jobs whose tenants share alike stay by rising numbers, as the sort leaves them. */
    private int compareShares(int one, int other) {
        if (quota[one] == 0 || quota[other] == 0) {
            return Boolean.compare(quota[one] == 0, quota[other] == 0);
        }
        return Integer.compare(used(one) * quota[other], used(other) * quota[one]);
    }

    private boolean places(Job job) {
        if (used(job.tenant) + job.at.length * job.cores > quota[job.tenant]) {
            return false;
        }
        for (int part = 0; part < job.at.length; part++) {
            job.at[part] = machineFor(job);
            if (job.at[part] < 0) {
                job.leave('w');
                return false;
            }
        }
        job.state = 'r';
        return true;
    }

    private int machineFor(Job job) {
        int best = -1;
        for (int i = 0; i < machines.size(); i++) {
            if (canTake(i, job) && (best < 0 || load(i) < load(best))) {
                best = i;
            }
        }
        return best;
    }

    private boolean canTake(int number, Job job) {
        Machine machine = machines.get(number);
        int rack = machine.rack;
        int needed = machine.watts * job.cores;
        boolean hasGroup = false;
        for (int i : machinesOf(rack)) {
            needed += needs(i);
            for (Job other : jobs) {
                hasGroup |= job.group >= 0 && other.group == job.group && other.hasPartOn(i);
            }
        }
        return machine.state == '+' && !machine.isDrained && load(number) + job.cores <= machine.cores
                && (isLive(rack, 0) || isLive(rack, 1)) && needed <= racks.get(rack).bears && !hasGroup;
    }

    // What single faults are tried on.

    private int countRunning() {
        int count = 0;
        for (Job job : jobs) {
            count += job.state == 'r' ? 1 : 0;
        }
        return count;
    }

    private int countLost() {
        int count = 0;
        for (Volume volume : volumes) {
            count += volume.holders.isEmpty() ? 1 : 0;
        }
        return count;
    }

    /** Without what no single fault comes from: heat, quotas, bills, tickets and alarms. */
    private Model copy() {
        Model copy = new Model();
        for (int feed = 0; feed < 2; feed++) {
            copy.mains[feed] = mains[feed];
            copy.charge[feed] = charge[feed];
        }
        for (Rack rack : racks) {
            Rack twin = new Rack();
            twin.bears = rack.bears;
            twin.isTripped = rack.isTripped.clone();
            copy.racks.add(twin);
        }
        for (Machine machine : machines) {
            Machine twin = new Machine();
            twin.rack = machine.rack;
            twin.watts = machine.watts;
            twin.state = machine.state;
            twin.isIn = machine.isIn.clone();
            copy.machines.add(twin);
        }
        for (Job job : jobs) {
            Job twin = new Job();
            twin.cores = job.cores;
            twin.state = job.state;
            twin.at = job.at.clone();
            copy.jobs.add(twin);
        }
        for (Volume volume : volumes) {
            Volume twin = new Volume();
            twin.holders.addAll(volume.holders);
            copy.volumes.add(twin);
        }
        return copy;
    }
}
