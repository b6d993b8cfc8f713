import java.util.NoSuchElementException;

/** A shop that makes wheels with teeth. */
public final class Hobhouse {
    private static final int MOST_GEARS = 20;
    private static final int MOST_HOBS = 8;
    private static final int MOST_MACHINES = 6;
    private static final int MOST_WHEELS = 16;
    private static final int MOST_KINDS_OF_ROUTE = 8;
    private static final int FEWEST_TEETH = 6;
    private static final int MOST_TEETH = 200;
    private static final int MOST_RING_TEETH = 600;
    private static final int MOST_RATIO = 9999;
    private static final int MOST_PARTS = 999999;
    private static final int MOST_BALANCE = 50;
    private static final int MOST_LOOKED_AT = 5;
    private static final int FULL_WEAR = 200;
    private static final int MOST_HOB_ERROR = 8;
    private static final int REGROUND = 100;
    private static final int LEAST_HOB_DIAMETER = 20000;
    private static final int NONE = -1;
    private static final long MILLION = 1000000;
    private static final int GREATEST_INT = 2147483647;
    private static final long GREATEST_LONG = 9223372036854775807L;
    private static final int[] GRADES = {2, 3, 4, 6, 8, 11, 16, 22, 32, 45, 64, 90, 128};
    private static final int[] SINES = {866, 707, 588, 500};

    private final Gear[] gears;
    private int gearCount;
    private final Hob[] hobs;
    private int hobCount;
    private final Station[] stations;
    private int stationCount;
    private final Box box;
    private final Rolling rolling;
    private final Matching matching;
    private int constant;
    private int ownTeeth;

    public Hobhouse() {
        gears = new Gear[MOST_GEARS];
        hobs = new Hob[MOST_HOBS];
        stations = new Station[MOST_MACHINES];
        box = new Box();
        rolling = new Rolling();
        matching = new Matching();
        constant = 24;
        ownTeeth = 60;
    }

    // Gears

    public int gear(int teeth, int module, int helix, int width)
            throws IllegalArgumentException, IllegalStateException {
        needTeeth(teeth);
        needRange(module, 500, 10000);
        needRange(helix, -500, 500);
        needRange(width, 1000, 99999);
        if (gearCount >= gears.length) {
            throw new IllegalStateException("there are 20 gears");
        }
        int number = gearCount;
        gears[number] = new Gear(number, teeth, module, helix, width);
        gearCount++;
        return number;
    }

    public int setShift(int gear, int shift)
            throws IndexOutOfBoundsException, IllegalArgumentException, UnsupportedOperationException {
        Gear changed = gearAt(gear);
        needRange(shift, -100, 100);
        allowOnly(!changed.isCut);
        int before = changed.shift;
        changed.shift = shift;
        return before;
    }

    public int diameter(int gear) throws IndexOutOfBoundsException {
        return gearAt(gear).pitchDiameter();
    }

    public int tip(int gear) throws IndexOutOfBoundsException {
        Gear asked = gearAt(gear);
        return asked.tipAt(asked.shift);
    }

    public boolean isUndercut(int gear) throws IndexOutOfBoundsException {
        Gear asked = gearAt(gear);
        return undercuts(asked.teeth, asked.shift);
    }

    public boolean isSharp(int gear) throws IndexOutOfBoundsException {
        Gear asked = gearAt(gear);
        return sharpens(asked.teeth, asked.shift);
    }

    public int fewest(int shift) throws IllegalArgumentException {
        needRange(shift, -100, 100);
        int teeth = 1;
        while (teeth < MOST_TEETH && undercuts(teeth, shift)) {
            teeth++;
        }
        return teeth;
    }

    public boolean doPair(int first, int second) throws IndexOutOfBoundsException, IllegalArgumentException {
        Gear one = gearAt(first);
        Gear other = gearAt(second);
        if (one == other) {
            throw new IllegalArgumentException("both gears are the same");
        }
        return one.pairsWith(other);
    }

    public long contact(int first, int second) throws IndexOutOfBoundsException, UnsupportedOperationException {
        Gear one = gearAt(first);
        Gear other = gearAt(second);
        needPair(one, other);
        return contactOf(one, other);
    }

    public long overlap(int first, int second) throws IndexOutOfBoundsException, UnsupportedOperationException {
        Gear one = gearAt(first);
        Gear other = gearAt(second);
        needPair(one, other);
        return overlapOf(one, other);
    }

    public boolean runsWell(int first, int second) throws IndexOutOfBoundsException, UnsupportedOperationException {
        Gear one = gearAt(first);
        Gear other = gearAt(second);
        needPair(one, other);
        return one.isGoodAt(one.shift) && other.isGoodAt(other.shift)
                && contactOf(one, other) + overlapOf(one, other) >= 1200;
    }

    public long slide(int first, int second) throws IndexOutOfBoundsException, UnsupportedOperationException {
        Gear one = gearAt(first);
        Gear other = gearAt(second);
        needPair(one, other);
        return Math.abs(one.wayAt(one.shift) - other.wayAt(other.shift));
    }

    public int balance(int first, int second)
            throws IndexOutOfBoundsException, UnsupportedOperationException, NoSuchElementException {
        Gear one = gearAt(first);
        Gear other = gearAt(second);
        needPair(one, other);
        allowOnly(!one.isCut && !other.isCut);
        int shift = balancedShift(one, other);
        if (shift > MOST_BALANCE) {
            throw new NoSuchElementException("there are no such shifts");
        }
        one.shift = shift;
        other.shift = -shift;
        return shift;
    }

    public int section(int gear, int mate, int section, int sections)
            throws IndexOutOfBoundsException, IllegalArgumentException, UnsupportedOperationException {
        Gear asked = gearAt(gear);
        Gear square = gearAt(mate);
        needRange(sections, 1, 50);
        needRange(section, 0, sections - 1);
        long own = asked.pitchDiameter();
        long others = square.pitchDiameter();
        long cone = root(own * own + others * others) / 2;
        allowOnly(asked.width <= cone / 3 && asked.module == square.module && cone > 0);
        long left = cone - (long) asked.width * section / sections;
        return (int) (asked.module * left / cone);
    }

    /** Whether a gear is undercut; its teeth may be fewer here than a gear of the shop has. */
    private static boolean undercuts(int teeth, int shift) {
        return 137 * shift < 100 * (137 - 8 * teeth);
    }

    private static boolean sharpens(int teeth, int shift) {
        return 40 * shift > 100 * (teeth + 10);
    }

    private static int tipOf(int teeth, int module, int shift) {
        return teeth * module + 2 * module + 2 * shift * module / 100;
    }

    private static long contactOf(Gear one, Gear other) {
        long sum = (long) one.pitchDiameter() + other.pitchDiameter();
        long path = one.lineAt(one.shift) + other.lineAt(other.shift) - root(16 * sum * sum / 137);
        long pitch = 7810L * one.module;
        long base = root(pitch * pitch / 137) / 113;
        return path <= 0 || base <= 0 ? 0 : 1000 * path / base;
    }

    private static long overlapOf(Gear one, Gear other) {
        long width = Math.min(one.width, other.width);
        return width * Math.abs(one.helix) * 113 / (355L * one.module);
    }

    /** Returns the balanced shift of the first one, or one that is too great if there is none. */
    private static int balancedShift(Gear one, Gear other) {
        int best = MOST_BALANCE + 1;
        long least = GREATEST_LONG;
        for (int place = 0; place <= 2 * MOST_BALANCE; place++) {
            int shift = nearestToZero(place);
            if (one.isGoodAt(shift) && other.isGoodAt(-shift)) {
                long slip = Math.abs(one.wayAt(shift) - other.wayAt(-shift));
                if (slip < least) {
                    least = slip;
                    best = shift;
                }
            }
        }
        return best;
    }

    /** Counts 0, 1, -1, 2, -2, ..: lesser amounts come first, then the greater of two. */
    private static int nearestToZero(int place) {
        int amount = (place + 1) / 2;
        return place % 2 == 1 ? amount : -amount;
    }

    // Trains

    public int bestPair(int up, int down, int low, int high) throws IllegalArgumentException {
        return bestTrain(up, down, low, high).first;
    }

    public int bestMate(int up, int down, int low, int high) throws IllegalArgumentException {
        return bestTrain(up, down, low, high).second;
    }

    public char planets(int sun, int ring, int planets) throws IllegalArgumentException {
        needTeeth(sun);
        needRange(ring, sun + 1, MOST_RING_TEETH);
        needRange(planets, 3, 6);
        return planetSign(sun, ring, planets);
    }

    public int rings(int sun, int planets, int low, int high) throws IllegalArgumentException {
        needTeeth(sun);
        needRange(planets, 3, 6);
        needRange(low, 200, MOST_RATIO);
        needRange(high, 200, MOST_RATIO);
        int count = 0;
        for (int ring = sun + 1; ring <= MOST_RING_TEETH; ring++) {
            int ratioTimesSun = 100 * (sun + ring);
            boolean isBetween = ratioTimesSun >= low * sun && ratioTimesSun <= high * sun;
            if (isBetween && planetSign(sun, ring, planets) == 'g') {
                count++;
            }
        }
        return count;
    }

    private static Train bestTrain(int up, int down, int low, int high) {
        needRatio(up, down);
        needRange(low, FEWEST_TEETH, MOST_TEETH);
        needRange(high, low, MOST_TEETH);
        Train train = new Train(up, down);
        train.search(low, high);
        return train;
    }

    private static char planetSign(int sun, int ring, int planets) {
        int planet = (ring - sun) / 2;
        if ((ring - sun) % 2 != 0 || planet < 6) {
            return 'w';
        }
        if (planets < 3 || planets - 3 >= SINES.length || (sun + ring) % planets != 0) {
            return 'a';
        }
        return (sun + planet) * SINES[planets - 3] > 1000 * (planet + 2) ? 'g' : 'r';
    }

    // Settings

    public int wheel(int teeth) throws IllegalArgumentException, IllegalStateException {
        needRange(teeth, 15, 127);
        if (box.isFull()) {
            throw new IllegalStateException("the box has 16 wheels");
        }
        return box.put(teeth);
    }

    public int change(int up, int down, int index) throws IllegalArgumentException, NoSuchElementException {
        needRatio(up, down);
        needRange(index, 0, 3);
        needFourWheels();
        box.search(up, down);
        return box.bestWheel(index);
    }

    public boolean meets(int up, int down, int parts) throws IllegalArgumentException, NoSuchElementException {
        needRatio(up, down);
        needRange(parts, 0, MOST_PARTS);
        needFourWheels();
        box.search(up, down);
        return box.isMet(parts);
    }

    public int setMachine(int constant, int teeth) throws IllegalArgumentException {
        needRange(constant, 1, 99);
        needRange(teeth, 2, MOST_TEETH);
        int before = this.constant;
        this.constant = constant;
        ownTeeth = teeth;
        return before;
    }

    public int hob(int module, int starts, int diameter, int places)
            throws IllegalArgumentException, IllegalStateException {
        needRange(module, 500, 10000);
        needRange(starts, 1, 4);
        needRange(diameter, LEAST_HOB_DIAMETER, 200000);
        needRange(places, 1, 20);
        if (hobCount >= hobs.length) {
            throw new IllegalStateException("there are 8 hobs");
        }
        int number = hobCount;
        hobs[number] = new Hob(module, starts, diameter, places);
        hobCount++;
        return number;
    }

    public boolean indexes(int gear, int hob, int parts)
            throws IndexOutOfBoundsException, IllegalArgumentException, NoSuchElementException {
        Gear asked = gearAt(gear);
        Hob tool = hobAt(hob);
        needRange(parts, 0, MOST_PARTS);
        needFourWheels();
        box.search(constant * tool.starts, asked.teeth);
        return box.isMet(parts);
    }

    public boolean differs(int gear, int hob, int parts) throws IndexOutOfBoundsException,
            IllegalArgumentException, UnsupportedOperationException, NoSuchElementException {
        Gear asked = gearAt(gear);
        Hob tool = hobAt(hob);
        needRange(parts, 0, MOST_PARTS);
        allowOnly(asked.helix != 0);
        needFourWheels();
        box.search(Math.abs(asked.helix) * constant, asked.module * tool.starts);
        return box.isMet(parts);
    }

    public int shoulder(int gear, int room) throws IndexOutOfBoundsException, IllegalArgumentException {
        Gear changed = gearAt(gear);
        needRange(room, NONE, 99999);
        int before = changed.room;
        changed.room = room;
        return before;
    }

    public int approach(int hob) throws IndexOutOfBoundsException {
        return (int) hobAt(hob).wayIn();
    }

    public int cut(int gear, int hob, int stock)
            throws IndexOutOfBoundsException, IllegalArgumentException, UnsupportedOperationException {
        Gear blank = gearAt(gear);
        Hob tool = hobAt(hob);
        needRange(stock, 0, 500);
        allowOnly(!blank.isCut && tool.fits(blank) && !tool.isBlunt());
        blank.isCut = true;
        blank.hobStarts = tool.starts;
        blank.profileError = tool.profileError;
        blank.stock = stock;
        return tool.turnToNext(blank.teeth);
    }

    public int wear(int hob, int place) throws IndexOutOfBoundsException {
        Hob asked = hobAt(hob);
        if (place < 0 || place >= asked.worn.length) {
            throw new IndexOutOfBoundsException("there is no such place");
        }
        return asked.worn[place];
    }

    public int regrind(int hob) throws IndexOutOfBoundsException, UnsupportedOperationException {
        Hob changed = hobAt(hob);
        allowOnly(changed.profileError < MOST_HOB_ERROR
                && changed.diameter >= LEAST_HOB_DIAMETER + REGROUND);
        changed.sharpen();
        return changed.profileError;
    }

    // Double gears

    public boolean inStep(int first, int second, int up, int down) throws IllegalArgumentException {
        needTeeth(first);
        needTeeth(second);
        needRange(up, 0, GREATEST_INT);
        needRange(down, 1, MOST_RATIO);
        // Teeth of both stand apart by each multiple of 1 / their least common multiple, and by no other part.
        return (long) up * commonMultiple(first, second) % down == 0;
    }

    public int clock(int first, int second, int tooth) throws IllegalArgumentException {
        needTeeth(first);
        needTeeth(second);
        needRange(tooth, 0, first - 1);
        // The second's teeth stand at each multiple of the first's number of teeth.
        return Math.floorMod(-tooth * second, first);
    }

    // Heat and grinding

    public int harden(int gear, int hours, boolean isPressed)
            throws IndexOutOfBoundsException, IllegalArgumentException, UnsupportedOperationException {
        Gear heated = gearAt(gear);
        needRange(hours, 1, 99);
        allowOnly(heated.isWhole() && !heated.isHardened);
        return heated.heat(hours, isPressed);
    }

    public int caseOf(int gear) throws IndexOutOfBoundsException {
        return gearAt(gear).caseDepth;
    }

    public boolean isClean(int gear) throws IndexOutOfBoundsException, UnsupportedOperationException {
        Gear asked = gearAt(gear);
        allowOnly(asked.isHardened);
        return asked.hadStockEnough;
    }

    public int grind(int gear, int depth, int feed)
            throws IndexOutOfBoundsException, IllegalArgumentException, UnsupportedOperationException {
        Gear ground = gearAt(gear);
        needRange(depth, 1, 99);
        needRange(feed, 1, 999);
        allowOnly(ground.isWhole() && ground.stock > 0);
        ground.takeOff(Math.min(depth, ground.stock), feed);
        return ground.stock;
    }

    public char stateOf(int gear) throws IndexOutOfBoundsException {
        Gear asked = gearAt(gear);
        if (asked.isBroken()) {
            return '/';
        }
        if (asked.isScrap) {
            return 'x';
        }
        if (asked.isGround) {
            return 'g';
        }
        if (asked.isHardened) {
            return 'h';
        }
        return asked.isCut ? 'c' : 'b';
    }

    // Charts

    public int chart(int gear, int tooth, int error) throws IndexOutOfBoundsException, IllegalArgumentException {
        Gear measured = gearAt(gear);
        needRange(tooth, 0, measured.teeth - 1);
        needRange(error, -500, 500);
        return measured.chart.tell(tooth, error);
    }

    public int total(int gear) throws IndexOutOfBoundsException {
        return gearAt(gear).chart.spread;
    }

    public int grade(int gear) throws IndexOutOfBoundsException {
        return gearAt(gear).worstGrade();
    }

    public int part(int gear, int period) throws IndexOutOfBoundsException, IllegalArgumentException {
        Gear asked = gearAt(gear);
        if (period < 1 || period > asked.teeth || asked.teeth % period != 0) {
            throw new IllegalArgumentException("there is no such period");
        }
        return asked.chart.partOf(period);
    }

    public char cause(int gear) throws IndexOutOfBoundsException {
        Gear asked = gearAt(gear);
        int ghost = asked.chart.partOf(commonDivisor(ownTeeth, asked.teeth));
        int ofHob = asked.chart.partOf(asked.hobStarts);
        int ofSetting = asked.chart.spread;
        int greatest = Math.max(ghost, Math.max(ofHob, ofSetting));
        if (greatest == 0) {
            return 'n';
        }
        if (ghost == greatest) {
            return 'm';
        }
        return ofHob == greatest ? 't' : 's';
    }

    // Rolling

    public int peak(int first, int second, int start)
            throws IndexOutOfBoundsException, IllegalArgumentException, UnsupportedOperationException {
        Gear one = gearAt(first);
        Gear other = gearAt(second);
        needRange(start, 0, other.teeth - 1);
        needPair(one, other);
        rolling.take(one.chart, other.chart);
        return rolling.peakFrom(start);
    }

    public int quietest(int first, int second) throws IndexOutOfBoundsException, UnsupportedOperationException {
        Gear one = gearAt(first);
        Gear other = gearAt(second);
        needPair(one, other);
        rolling.take(one.chart, other.chart);
        return rolling.quietStart();
    }

    public int note(int first, int second, int period)
            throws IndexOutOfBoundsException, IllegalArgumentException, UnsupportedOperationException {
        Gear one = gearAt(first);
        Gear other = gearAt(second);
        needRange(period, 1, MOST_TEETH);
        needPair(one, other);
        // With a part of 0 where the period does not divide, the greater part is the difference too.
        return Math.abs(one.chart.partOf(period) - other.chart.partOf(period));
    }

    public boolean hunts(int first, int second) throws IndexOutOfBoundsException, UnsupportedOperationException {
        Gear one = gearAt(first);
        Gear other = gearAt(second);
        needPair(one, other);
        return commonDivisor(one.teeth, other.teeth) == 1;
    }

    // Strength

    public int bears(int gear) throws IndexOutOfBoundsException {
        return gearAt(gear).borneTorque();
    }

    public long life(int gear, int torque) throws IndexOutOfBoundsException, IllegalArgumentException {
        Gear asked = gearAt(gear);
        needRange(torque, 1, 999999);
        return asked.lifeUnder(torque);
    }

    public int run(int first, int second, int torque, int turns)
            throws IndexOutOfBoundsException, IllegalArgumentException, UnsupportedOperationException {
        Gear one = gearAt(first);
        Gear other = gearAt(second);
        needRange(torque, 1, 99999);
        needRange(turns, 1, 999999);
        needPair(one, other);
        allowOnly(one.isWhole() && other.isWhole() && one.isFreeFor(other) && other.isFreeFor(one));
        one.turn(torque, turns);
        other.turn((long) torque * other.teeth / one.teeth, (long) turns * one.teeth / other.teeth);
        return (one.isBroken() ? 1 : 0) + (other.isBroken() ? 1 : 0);
    }

    public long damage(int gear) throws IndexOutOfBoundsException {
        return gearAt(gear).hurt;
    }

    // Sets

    public int match(int first, int second, int many) throws IllegalArgumentException, NoSuchElementException {
        if (first == second) {
            throw new IllegalArgumentException("the teeth are the same");
        }
        needRange(many, 1, 4);
        matching.begin();
        for (int i = 0; i < gearCount; i++) {
            if (gears[i].isWhole() && gears[i].mateNumber == NONE) {
                matching.offer(gears[i], first, second);
            }
        }
        matching.rollAll(rolling);
        if (!matching.search(many)) {
            throw new NoSuchElementException("there are not so many pairs");
        }
        matching.bind();
        return matching.leastSum;
    }

    public int mate(int gear) throws IndexOutOfBoundsException, NoSuchElementException {
        Gear asked = gearAt(gear);
        if (asked.mateNumber == NONE) {
            throw new NoSuchElementException("the gear is in no set");
        }
        return asked.mateNumber;
    }

    public int separate(int gear) throws IndexOutOfBoundsException, UnsupportedOperationException {
        Gear one = gearAt(gear);
        allowOnly(one.mateNumber != NONE);
        Gear other = gearAt(one.mateNumber);
        one.mateNumber = NONE;
        other.mateNumber = NONE;
        return other.number;
    }

    // Shop

    public int machine(char kind, int time) throws IllegalArgumentException, IllegalStateException {
        needKind(kind);
        needRange(time, 1, 99);
        if (stationCount >= stations.length) {
            throw new IllegalStateException("there are 6 machines");
        }
        int number = stationCount;
        stations[number] = new Station(kind, time);
        stationCount++;
        return number;
    }

    public int toolsAt(int machine, int time) throws IndexOutOfBoundsException, IllegalArgumentException {
        if (machine < 0 || machine >= stationCount) {
            throw new IndexOutOfBoundsException("there is no such machine");
        }
        needRange(time, 0, 9999);
        int before = stations[machine].toolsFrom;
        stations[machine].toolsFrom = time;
        return before;
    }

    public int route(int gear, char kind)
            throws IndexOutOfBoundsException, IllegalArgumentException, IllegalStateException {
        Gear routed = gearAt(gear);
        needKind(kind);
        if (routed.way.length() >= MOST_KINDS_OF_ROUTE) {
            throw new IllegalStateException("the route has 8 kinds");
        }
        routed.way.append(kind);
        return routed.way.length();
    }

    public int doneAt(int gear) throws IndexOutOfBoundsException, NoSuchElementException {
        Gear asked = gearAt(gear);
        needMachines();
        for (int i = 0; i < stationCount; i++) {
            stations[i].freeFrom = stations[i].toolsFrom;
        }
        int time = 0;
        for (int i = 0; i <= asked.number && i < gearCount; i++) {
            time = passRoute(gears[i].way);
        }
        return time;
    }

    private void needMachines() {
        for (int i = 0; i < gearCount; i++) {
            StringBuilder way = gears[i].way;
            for (int step = 0; step < way.length(); step++) {
                if (soonest(way.charAt(step), 0) == NONE) {
                    throw new NoSuchElementException("there is no machine for a kind");
                }
            }
        }
    }

    /** Sends a gear through its route over the machines as they are free, and returns when it is done. */
    private int passRoute(StringBuilder way) {
        int time = 0;
        for (int step = 0; step < way.length(); step++) {
            int chosen = soonest(way.charAt(step), time);
            if (chosen >= 0 && chosen < stationCount) {
                time = stations[chosen].endFrom(time);
                stations[chosen].freeFrom = time;
            }
        }
        return time;
    }

    private int soonest(char kind, int time) {
        int best = NONE;
        int least = GREATEST_INT;
        for (int i = 0; i < stationCount; i++) {
            if (stations[i].kind == kind && stations[i].endFrom(time) < least) {
                best = i;
                least = stations[i].endFrom(time);
            }
        }
        return best;
    }

    // Old gears

    public int oldModule(int teeth, int tip, int worn) throws IllegalArgumentException, NoSuchElementException {
        return tellOld(teeth, tip, worn).module;
    }

    public int oldShift(int teeth, int tip, int worn) throws IllegalArgumentException, NoSuchElementException {
        return tellOld(teeth, tip, worn).shift;
    }

    private static OldGear tellOld(int teeth, int tip, int worn) {
        needTeeth(teeth);
        needRange(tip, 1000, 9999999);
        needRange(worn, 0, 9999);
        OldGear old = new OldGear(teeth, tip, worn);
        old.search();
        if (!old.isFound()) {
            throw new NoSuchElementException("no gear is meant");
        }
        return old;
    }

    // Sums

    public long allDamage() {
        long sum = 0;
        for (int i = 0; i < gearCount; i++) {
            sum += gears[i].hurt;
        }
        return sum;
    }

    public float cutShare() throws ArithmeticException {
        needAnyGear();
        int count = 0;
        for (int i = 0; i < gearCount; i++) {
            if (gears[i].isCut) {
                count++;
            }
        }
        return (float) count / (float) gearCount;
    }

    public double meanGrade() throws ArithmeticException {
        needAnyGear();
        int sum = 0;
        for (int i = 0; i < gearCount; i++) {
            sum += gears[i].worstGrade();
        }
        return (double) sum / (double) gearCount;
    }

    public boolean isSound() {
        for (int i = 0; i < gearCount; i++) {
            if (!isMatedRightly(gears[i])) {
                return false;
            }
            for (int j = i + 1; j < gearCount; j++) {
                if (gears[i].pairsWith(gears[j]) && !rollsAsTold(gears[i].chart, gears[j].chart)) {
                    return false;
                }
            }
        }
        return true;
    }

    private boolean isMatedRightly(Gear one) {
        if (one.mateNumber == NONE) {
            return true;
        }
        if (one.mateNumber < 0 || one.mateNumber >= gearCount) {
            return false;
        }
        Gear other = gears[one.mateNumber];
        return one != other && other.mateNumber == one.number && one.isCut && one.pairsWith(other);
    }

    private boolean rollsAsTold(Chart first, Chart second) {
        rolling.take(first, second);
        int start = rolling.quietStart();
        return isAsRolled(first, second, 0) && (start == 0 || isAsRolled(first, second, start));
    }

    private boolean isAsRolled(Chart first, Chart second, int start) {
        int told = rolling.peakFrom(start);
        return told == rolledPeak(first, second, start) && told <= first.spread + second.spread + 2;
    }

    private static int rolledPeak(Chart first, Chart second, int start) {
        int[] ones = first.stands;
        int[] others = second.stands;
        int high = -GREATEST_INT;
        int low = GREATEST_INT;
        int steps = commonMultiple(ones.length, others.length);
        int i = 0;
        int j = start;
        for (int step = 0; step < steps && i < ones.length && j >= 0 && j < others.length; step++) {
            int sum = ones[i] + others[j];
            high = Math.max(high, sum);
            low = Math.min(low, sum);
            i = i + 1 < ones.length ? i + 1 : 0;
            j = j + 1 < others.length ? j + 1 : 0;
        }
        return high - low;
    }

    // What calls need

    private Gear gearAt(int number) {
        if (number < 0 || number >= gearCount) {
            throw new IndexOutOfBoundsException("there is no such gear");
        }
        return gears[number];
    }

    private Hob hobAt(int number) {
        if (number < 0 || number >= hobCount) {
            throw new IndexOutOfBoundsException("there is no such hob");
        }
        return hobs[number];
    }

    private static void needRange(int value, int low, int high) {
        if (value < low || value > high) {
            throw new IllegalArgumentException("a number is out of range");
        }
    }

    private static void needTeeth(int teeth) {
        needRange(teeth, FEWEST_TEETH, MOST_TEETH);
    }

    private static void needRatio(int up, int down) {
        needRange(up, 1, MOST_RATIO);
        needRange(down, 1, MOST_RATIO);
    }

    private static void needKind(char kind) {
        if (kind != 'h' && kind != 'f' && kind != 'g' && kind != 'c') {
            throw new IllegalArgumentException("there is no such kind");
        }
    }

    private static void needPair(Gear one, Gear other) {
        allowOnly(one != other && one.pairsWith(other));
    }

    private static void allowOnly(boolean isPossible) {
        if (!isPossible) {
            throw new UnsupportedOperationException("this cannot be done");
        }
    }

    private void needFourWheels() {
        if (!box.hasFour()) {
            throw new NoSuchElementException("the box has fewer than 4 wheels");
        }
    }

    private void needAnyGear() {
        if (gearCount == 0) {
            throw new ArithmeticException("there are no gears");
        }
    }

    // Numbers

    /** Returns the greatest whole number whose square is at most n, 0 for less than 0. */
    private static long root(long n) {
        long found = 0;
        for (int bit = 30; bit >= 0; bit--) {
            long tried = found + (1L << bit);
            if (tried * tried <= n) {
                found = tried;
            }
        }
        return found;
    }

    private static int commonDivisor(int a, int b) {
        int great = a;
        int small = b;
        for (int step = 0; step < 64 && small != 0; step++) {
            int rest = great % small;
            great = small;
            small = rest;
        }
        return Math.max(great, 1);
    }

    private static int commonMultiple(int a, int b) {
        return a / commonDivisor(a, b) * b;
    }

    private static int gradeOf(int value) {
        int found = 0;
        while (found < GRADES.length && GRADES[found] < value) {
            found++;
        }
        return found;
    }

    /** A gear, and all that has been done to it. */
    private static final class Gear {
        final int number;
        final int teeth;
        final int module;
        final int helix;
        final int width;
        final Chart chart;
        final StringBuilder way;
        int shift;
        int room;
        boolean isCut;
        int hobStarts;
        int profileError;
        int stock;
        boolean isHardened;
        boolean hadStockEnough;
        int caseDepth;
        boolean isGround;
        boolean isScrap;
        long hurt;
        int mateNumber;

        Gear(int number, int teeth, int module, int helix, int width) {
            this.number = number;
            this.teeth = teeth;
            this.module = module;
            this.helix = helix;
            this.width = width;
            chart = new Chart(teeth);
            way = new StringBuilder();
            room = NONE;
            mateNumber = NONE;
        }

        int pitchDiameter() {
            return teeth * module;
        }

        int tipAt(int shift) {
            return tipOf(teeth, module, shift);
        }

        boolean isGoodAt(int shift) {
            return !undercuts(teeth, shift) && !sharpens(teeth, shift);
        }

        /** L, if the gear had this shift. */
        long lineAt(int shift) {
            long outer = tipAt(shift);
            long pitch = pitchDiameter();
            return root((137 * outer * outer - 121 * pitch * pitch) / 137);
        }

        long wayAt(int shift) {
            long pitch = pitchDiameter();
            return lineAt(shift) - root(16 * pitch * pitch / 137);
        }

        boolean pairsWith(Gear other) {
            return module == other.module && helix == -other.helix;
        }

        boolean isFreeFor(Gear other) {
            return mateNumber == NONE || mateNumber == other.number;
        }

        boolean isBroken() {
            return hurt >= MILLION;
        }

        boolean isWhole() {
            return isCut && !isScrap && !isBroken();
        }

        int heat(int hours, boolean isPressed) {
            long pitch = pitchDiameter();
            int growth = (int) (pitch * 3 / 10000);
            int warp = (int) (pitch * pitch / width / 2000);
            int change = growth + (isPressed ? warp / 2 : warp);
            isHardened = true;
            hadStockEnough = stock >= change;
            caseDepth = (int) root(hours * 250000L);
            return change;
        }

        void takeOff(int taken, int feed) {
            stock -= taken;
            // Before the gear is hardened there is no case that could get less.
            caseDepth = Math.max(0, caseDepth - taken);
            isGround = stock == 0;
            isScrap = taken > 30 || taken > 20 && feed > 100;
        }

        int worstGrade() {
            int ofChart = Math.max(gradeOf(chart.worstPitch()), gradeOf(chart.spread / 4));
            return Math.max(ofChart, gradeOf(2 * profileError));
        }

        int borneTorque() {
            int low = 0;
            int high = 100000;
            for (int step = 0; step < 32 && low < high; step++) {
                int middle = (low + high + 1) / 2;
                if (bearsTorque(middle)) {
                    low = middle;
                } else {
                    high = middle - 1;
                }
            }
            return low;
        }

        private boolean bearsTorque(int torque) {
            long pitch = pitchDiameter();
            long load = 2000000L * torque / pitch;
            long bending = load * (teeth + 20) / teeth * 1000000 / ((long) width * module);
            long pressing = root(load * 1000000 / pitch * 100000 / width);
            if (caseDepth == 0) {
                return bending <= 200 && pressing <= 600;
            }
            if (caseDepth < module / 6) {
                return bending <= 300 && pressing <= 1000;
            }
            return bending <= 400 && pressing <= 1400;
        }

        /** Returns turns, -1 without an end. */
        long lifeUnder(long torque) {
            long borne = borneTorque();
            if (torque <= borne) {
                return NONE;
            }
            long turns = MILLION;
            for (int time = 0; time < 6; time++) {
                turns = turns * borne / torque;
            }
            return turns;
        }

        void turn(long torque, long turns) {
            long turnsOfLife = lifeUnder(torque);
            if (turnsOfLife == 0) {
                hurt += MILLION;
            } else if (turnsOfLife > 0) {
                hurt += MILLION * turns / turnsOfLife;
            }
        }
    }

    /** The errors of a gear's pitches, and what follows from them. */
    private static final class Chart {
        final int[] errors;
        /** Where each tooth stands, divided by the teeth and cut. */
        final int[] stands;
        /** F. */
        int spread;

        Chart(int teeth) {
            errors = new int[teeth];
            stands = new int[teeth];
        }

        int tell(int tooth, int error) {
            if (tooth < 0 || tooth >= errors.length) {
                return 0;
            }
            int before = errors[tooth];
            errors[tooth] = error;
            measure();
            return before;
        }

        private void measure() {
            long all = sumOfClass(0, 1);
            long ahead = 0;
            long high = 0;
            long low = 0;
            for (int k = 0; k < errors.length; k++) {
                long stand = errors.length * ahead - k * all;
                high = Math.max(high, stand);
                low = Math.min(low, stand);
                stands[k] = (int) (stand / errors.length);
                spread = (int) ((high - low) / errors.length);
                ahead += errors[k];
            }
        }

        int worstPitch() {
            int worst = 0;
            for (int error : errors) {
                worst = Math.max(worst, Math.abs(error));
            }
            return worst;
        }

        /** Returns the part of a period, 0 if it does not divide the teeth. */
        int partOf(int period) {
            if (period < 1 || errors.length == 0 || errors.length % period != 0) {
                return 0;
            }
            int high = sumOfClass(0, period);
            int low = high;
            for (int start = 1; start < period; start++) {
                int sum = sumOfClass(start, period);
                high = Math.max(high, sum);
                low = Math.min(low, sum);
            }
            return (int) ((long) (high - low) * period / errors.length);
        }

        private int sumOfClass(int start, int period) {
            int sum = 0;
            for (int k = start; period > 0 && k < errors.length; k += period) {
                sum += errors[k];
            }
            return sum;
        }
    }

    /**
     * Two charts that are rolled. A tooth of the first one meets just those of the second one that are alike to it
     * modulo the greatest common divisor of the teeth, so the extremes of these classes tell each peak.
     */
    private static final class Rolling {
        private final int[] firstHighs = new int[MOST_TEETH];
        private final int[] firstLows = new int[MOST_TEETH];
        private final int[] secondHighs = new int[MOST_TEETH];
        private final int[] secondLows = new int[MOST_TEETH];
        private int classes = 1;

        void take(Chart first, Chart second) {
            int divisor = commonDivisor(first.stands.length, second.stands.length);
            classes = Math.max(1, Math.min(divisor, MOST_TEETH));
            sortOut(first.stands, firstHighs, firstLows);
            sortOut(second.stands, secondHighs, secondLows);
        }

        private void sortOut(int[] stands, int[] highs, int[] lows) {
            for (int k = 0; k < stands.length; k++) {
                int home = k % classes;
                boolean isFirst = k < classes;
                highs[home] = isFirst ? stands[k] : Math.max(highs[home], stands[k]);
                lows[home] = isFirst ? stands[k] : Math.min(lows[home], stands[k]);
            }
        }

        int peakFrom(int start) {
            int high = -GREATEST_INT;
            int low = GREATEST_INT;
            int other = Math.floorMod(start, classes);
            for (int one = 0; one < classes; one++) {
                high = Math.max(high, firstHighs[one] + secondHighs[other]);
                low = Math.min(low, firstLows[one] + secondLows[other]);
                other = other + 1 < classes ? other + 1 : 0;
            }
            return high - low;
        }

        int quietStart() {
            int quiet = 0;
            int least = peakFrom(0);
            for (int start = 1; start < classes; start++) {
                int tried = peakFrom(start);
                if (tried < least) {
                    least = tried;
                    quiet = start;
                }
            }
            return quiet;
        }
    }

    /** A tool, and how its places wear. */
    private static final class Hob {
        final int module;
        final int starts;
        final int[] worn;
        int diameter;
        int profileError;
        private int next;

        Hob(int module, int starts, int diameter, int places) {
            this.module = module;
            this.starts = starts;
            this.diameter = diameter;
            worn = new int[places];
        }

        long wayIn() {
            long depth = 9L * module / 4;
            return root(depth * (diameter - depth));
        }

        boolean fits(Gear gear) {
            return gear.module == module && gear.teeth >= starts && (starts == 1 || gear.helix >= 0)
                    && (gear.room == NONE || wayIn() <= gear.room);
        }

        boolean isBlunt() {
            return next >= worn.length || worn[next] >= FULL_WEAR;
        }

        /** Wears the place next in turn by a cutting, and returns it. */
        int turnToNext(int teeth) {
            int place = next;
            if (place < worn.length && starts > 0) {
                worn[place] += teeth / starts;
                next = place + 1 < worn.length ? place + 1 : 0;
            }
            return place;
        }

        void sharpen() {
            diameter -= REGROUND;
            profileError++;
            for (int place = 0; place < worn.length; place++) {
                worn[place] = 0;
            }
        }
    }

    /** The box of change wheels, the lowest numbers of teeth first. */
    private static final class Box {
        private final int[] wheels = new int[MOST_WHEELS];
        private final int[] best = new int[4];
        private int count;
        private long ratioUp;
        private long ratioDown;
        private long leastError;
        private long leastBase;

        boolean isFull() {
            return count >= MOST_WHEELS;
        }

        boolean hasFour() {
            return count >= 4;
        }

        int put(int teeth) {
            if (count < MOST_WHEELS) {
                int place = count;
                while (place > 0 && wheels[place - 1] > teeth) {
                    wheels[place] = wheels[place - 1];
                    place--;
                }
                wheels[place] = teeth;
                count++;
            }
            return count;
        }

        int bestWheel(int index) {
            return index >= 0 && index < best.length ? best[index] : 0;
        }

        /** Looks through all fours in the order of a, b, c, d, so that the first of several best ones stays. */
        void search(long up, long down) {
            ratioUp = up;
            ratioDown = down;
            leastError = GREATEST_LONG;
            leastBase = 0;
            for (int a = 0; a < count; a++) {
                for (int b = 0; b < count; b++) {
                    if (a != b) {
                        searchWith(a, b);
                    }
                }
            }
        }

        /** A four with c below a, or d below b, comes later than the one with these exchanged, which is as good. */
        private void searchWith(int a, int b) {
            for (int c = a + 1; c < count; c++) {
                for (int d = b + 1; d < count; d++) {
                    if (c != b && c != d && d != a) {
                        compare(wheels[a], wheels[b], wheels[c], wheels[d]);
                    }
                }
            }
        }

        private void compare(int a, int b, int c, int d) {
            long base = (long) b * d;
            long error = Math.abs((long) a * c * ratioDown - base * ratioUp);
            if (leastBase == 0 || error * leastBase < leastError * base) {
                leastError = error;
                leastBase = base;
                best[0] = a;
                best[1] = b;
                best[2] = c;
                best[3] = d;
            }
        }

        boolean isMet(int parts) {
            return MILLION * leastError <= parts * ratioUp * leastBase;
        }
    }

    /** The best pair of teeth for a ratio. */
    private static final class Train {
        private final int up;
        private final int down;
        private int first;
        private int second;
        private long leastError;

        Train(int up, int down) {
            this.up = up;
            this.down = down;
        }

        void search(int low, int high) {
            for (int teeth = low; teeth <= high && down > 0; teeth++) {
                // Of the first ones with this second one, only the nearest two can have the least error.
                int below = (int) Math.max(low, Math.min(high, (long) teeth * up / down));
                compare(below, teeth);
                compare(Math.min(high, below + 1), teeth);
            }
        }

        private void compare(int one, int other) {
            long error = Math.abs((long) one * down - (long) other * up);
            long ofThis = error * second;
            long ofBest = leastError * other;
            if (second == 0 || ofThis < ofBest || ofThis == ofBest && comesFirst(one, other)) {
                first = one;
                second = other;
                leastError = error;
            }
        }

        private boolean comesFirst(int one, int other) {
            boolean isPrime = commonDivisor(one, other) == 1;
            boolean wasPrime = commonDivisor(first, second) == 1;
            if (isPrime != wasPrime) {
                return isPrime;
            }
            if (one + other != first + second) {
                return one + other < first + second;
            }
            return one < first;
        }
    }

    /** Gears that may become sets, and the sets that are chosen. */
    private static final class Matching {
        private final Gear[] firsts = new Gear[MOST_LOOKED_AT];
        private final Gear[] seconds = new Gear[MOST_LOOKED_AT];
        private final int[] peaks = new int[MOST_LOOKED_AT * MOST_LOOKED_AT];
        private final boolean[] isTaken = new boolean[MOST_LOOKED_AT];
        private final int[] partners = new int[MOST_LOOKED_AT];
        private final int[] bestPartners = new int[MOST_LOOKED_AT];
        private int firstCount;
        private int secondCount;
        private int leastSum;

        void begin() {
            firstCount = 0;
            secondCount = 0;
        }

        void offer(Gear gear, int firstTeeth, int secondTeeth) {
            if (gear.teeth == firstTeeth && firstCount < MOST_LOOKED_AT) {
                firsts[firstCount] = gear;
                firstCount++;
            }
            if (gear.teeth == secondTeeth && secondCount < MOST_LOOKED_AT) {
                seconds[secondCount] = gear;
                secondCount++;
            }
        }

        void rollAll(Rolling rolling) {
            for (int i = 0; i < firstCount; i++) {
                for (int j = 0; j < secondCount; j++) {
                    peaks[i * MOST_LOOKED_AT + j] = NONE;
                    if (firsts[i].pairsWith(seconds[j])) {
                        rolling.take(firsts[i].chart, seconds[j].chart);
                        peaks[i * MOST_LOOKED_AT + j] = rolling.peakFrom(rolling.quietStart());
                    }
                }
            }
        }

        /** Returns whether there are so many pairs. */
        boolean search(int many) {
            leastSum = GREATEST_INT;
            for (int i = 0; i < MOST_LOOKED_AT; i++) {
                isTaken[i] = false;
                partners[i] = NONE;
                bestPartners[i] = NONE;
            }
            choose(this, 0, many, 0);
            return leastSum < GREATEST_INT;
        }

        /** Goes from first to first, at most to the fifth, so that earlier choices come earlier in the document's order. */
        private static void choose(Matching all, int at, int left, int sum) {
            if (left == 0) {
                all.keepIfLess(sum);
                return;
            }
            if (at >= all.firstCount || at >= MOST_LOOKED_AT) {
                return;
            }
            for (int j = 0; j < all.secondCount; j++) {
                int peak = all.peaks[at * MOST_LOOKED_AT + j];
                if (peak != NONE && !all.isTaken[j]) {
                    all.isTaken[j] = true;
                    all.partners[at] = j;
                    choose(all, at + 1, left - 1, sum + peak);
                    all.partners[at] = NONE;
                    all.isTaken[j] = false;
                }
            }
            choose(all, at + 1, left, sum);
        }

        private void keepIfLess(int sum) {
            if (sum < leastSum) {
                leastSum = sum;
                System.arraycopy(partners, 0, bestPartners, 0, MOST_LOOKED_AT);
            }
        }

        /** Makes sets of the pairs that were chosen. */
        void bind() {
            for (int i = 0; i < firstCount; i++) {
                int partner = bestPartners[i];
                if (partner >= 0 && partner < secondCount) {
                    firsts[i].mateNumber = seconds[partner].number;
                    seconds[partner].mateNumber = firsts[i].number;
                }
            }
        }
    }

    /** A machine of the shop, with the time from which on it is free while routes are followed. */
    private static final class Station {
        final char kind;
        final int time;
        int toolsFrom;
        int freeFrom;

        Station(char kind, int time) {
            this.kind = kind;
            this.time = time;
        }

        int endFrom(int ready) {
            return Math.max(ready, freeFrom) + time;
        }
    }

    /** What an old gear is meant with. */
    private static final class OldGear {
        private final int teeth;
        private final int measured;
        private final int worn;
        private int module;
        private int shift;
        private int leastTip = GREATEST_INT;

        OldGear(int teeth, int measured, int worn) {
            this.teeth = teeth;
            this.measured = measured;
            this.worn = worn;
        }

        boolean isFound() {
            return leastTip < GREATEST_INT;
        }

        void search() {
            for (int amount = 0; amount <= MOST_BALANCE && !isFound(); amount++) {
                for (int tried = 500; tried <= 10000; tried += 250) {
                    compare(tried, amount);
                    compare(tried, -amount);
                }
            }
        }

        private void compare(int triedModule, int triedShift) {
            int outer = tipOf(teeth, triedModule, triedShift);
            boolean isMeant = outer >= measured && outer - measured <= worn;
            if (isMeant && outer < leastTip) {
                leastTip = outer;
                module = triedModule;
                shift = triedShift;
            }
        }
    }
}
