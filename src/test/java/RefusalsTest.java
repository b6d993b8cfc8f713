/**
 * Each line of "Throws", promise by promise: what it names, that of two reasons the one listed first is told, and that
 * the shop afterwards is as it was. The ranges of single numbers are left to RangesTest.
 */
final class RefusalsTest {
    private static final Scenario NEW = new Scenario();
    private static final Scenario BUSY = busy();
    private static final Scenario FULL = full();
    private static final int NO_GEAR = 18;
    private static final int NO_HOB = 6;

    public static void main(String[] args) {
        gearsAndShifts();
        pairs();
        balances();
        sections();
        trains();
        boxesAndMachines();
        settings();
        cuts();
        hobs();
        heat();
        grinding();
        charts();
        rolling();
        strength();
        runs();
        sets();
        shop();
        oldGears();
        sums();
        Check.end();
    }

    /**
     * Gears: 0 and 1 blank, 2 cut, 3 hardened, 4 ground, 5 scrap, 6 and 7 broken, 8 and 9 a set, 10 leaning to the
     * right, 11 and 17 to the left, 12 of another module, 13 with few teeth, 14 with a shoulder, 15 wide,
     * 16 cut. Hobs: 0 for all, 1 with two starts, 2 of the other module, 3 ground eight times, 4 blunt, 5 small.
     */
    private static Scenario busy() {
        Scenario busy = new Scenario();
        int[][] gears = {{20, 0}, {30, 0}, {24, 0}, {36, 0}, {24, 0}, {25, 0}, {25, 0}, {35, 0}, {20, 0}, {31, 0},
            {20, 100}, {30, -100}, {30, 0}, {7, 0}, {20, 0}, {20, 0}, {200, 0}, {20, -100}};
        for (int i = 0; i < gears.length; i++) {
            int[] gear = gears[i];
            int module = i == 12 ? 2500 : 2000;
            int width = i == 15 ? 99999 : 12000;
            busy.then(x -> x.gear(gear[0], module, gear[1], width));
        }
        busy.then(x -> x.hob(2000, 1, 60000, 20)).then(x -> x.hob(2000, 2, 60000, 2))
                .then(x -> x.hob(2500, 1, 60000, 1)).then(x -> x.hob(2000, 1, 60000, 3))
                .then(x -> x.hob(2000, 1, 60000, 1)).then(x -> x.hob(2000, 1, 20099, 2));
        for (int i = 0; i < 8; i++) {
            busy.then(x -> x.regrind(3));
        }
        for (int i = 2; i <= 9; i++) {
            int gear = i;
            busy.then(x -> x.cut(gear, 0, 50));
        }
        busy.then(x -> x.cut(16, 4, 0));
        busy.then(x -> x.harden(3, 4, true)).then(x -> x.harden(4, 4, true));
        busy.then(x -> x.grind(4, 30, 10)).then(x -> x.grind(4, 20, 10)).then(x -> x.grind(5, 31, 10));
        busy.then(x -> x.run(6, 7, 99999, 999999)).then(x -> x.match(20, 31, 1));
        busy.then(x -> x.shoulder(14, 10)).then(x -> x.setShift(1, 5)).then(x -> x.setMachine(24, 48));
        busy.then(x -> x.chart(0, 0, 12)).then(x -> x.chart(2, 3, -40)).then(x -> x.chart(8, 3, 40));
        for (int teeth : new int[] {20, 24, 25, 30, 36}) {
            busy.then(x -> x.wheel(teeth));
        }
        busy.then(x -> x.machine('h', 5)).then(x -> x.machine('h', 7)).then(x -> x.machine('f', 20));
        busy.then(x -> x.toolsAt(0, 9)).then(x -> x.route(0, 'h')).then(x -> x.route(0, 'f'));
        for (int i = 0; i < 8; i++) {
            char kind = i < 4 ? 'h' : 'f';
            busy.then(x -> x.route(1, kind));
        }
        return busy;
    }

    private static Scenario full() {
        Scenario full = new Scenario();
        for (int i = 0; i < 20; i++) {
            full.then(x -> x.gear(20, 2000, 0, 20000));
        }
        for (int i = 0; i < 16; i++) {
            full.then(x -> x.wheel(20));
        }
        for (int i = 0; i < 8; i++) {
            full.then(x -> x.hob(2000, 1, 60000, 3));
        }
        for (int i = 0; i < 6; i++) {
            full.then(x -> x.machine('h', 5));
        }
        return full;
    }

    private static void gearsAndShifts() {
        FULL.refuses(Check.BAD_STATE, x -> x.gear(20, 2000, 0, 20000));
        FULL.refuses(Check.BAD_ARGUMENT, x -> x.gear(5, 2000, 0, 20000));
        FULL.refuses(Check.BAD_ARGUMENT, x -> x.gear(20, 499, 0, 20000));
        FULL.refuses(Check.BAD_ARGUMENT, x -> x.gear(20, 2000, 501, 20000));
        FULL.refuses(Check.BAD_ARGUMENT, x -> x.gear(20, 2000, 0, 999));
        BUSY.refuses(Check.NO_INDEX, x -> x.setShift(NO_GEAR, 101));
        BUSY.refuses(Check.BAD_ARGUMENT, x -> x.setShift(2, 101));
        for (int i = 2; i <= 9; i++) {
            int cut = i;
            BUSY.refuses(Check.NOT_ALLOWED, x -> x.setShift(cut, 0));
        }
    }

    private static void pairs() {
        BUSY.refuses(Check.BAD_ARGUMENT, x -> x.doPair(0, 0));
        BUSY.refuses(Check.NO_INDEX, x -> x.doPair(NO_GEAR, NO_GEAR));
        BUSY.refuses(Check.NO_INDEX, x -> x.doPair(-1, -1));
        BUSY.tells(false, x -> x.doPair(0, 12));
        for (String name : new String[] {"contact", "overlap", "runsWell", "slide", "quietest", "hunts", "balance"}) {
            refusePairs(name);
        }
    }

    /** None of these pair: the same ones, another module, one hand, one that leans with one that does not. */
    private static void refusePairs(String name) {
        int[][] none = {{0, 0}, {10, 10}, {0, 12}, {12, 0}, {10, 0}, {0, 10}, {11, 17}, {17, 11}};
        for (int[] pair : none) {
            BUSY.refuses(Check.NOT_ALLOWED, x -> Scenario.call(x, name, pair[0], pair[1]));
        }
        BUSY.refuses(Check.NO_INDEX, x -> Scenario.call(x, name, NO_GEAR, NO_GEAR));
        BUSY.refuses(Check.NO_INDEX, x -> Scenario.call(x, name, -1, -1));
    }

    private static void balances() {
        BUSY.refuses(Check.NOT_ALLOWED, x -> x.balance(0, 2));
        BUSY.refuses(Check.NOT_ALLOWED, x -> x.balance(2, 0));
        BUSY.refuses(Check.NOT_ALLOWED, x -> x.balance(2, 3));
        BUSY.refuses(Check.NO_ELEMENT, x -> x.balance(0, 13));
        BUSY.refuses(Check.NO_ELEMENT, x -> x.balance(13, 0));
        // There are no such shifts for 7 teeth, but that is asked last.
        BUSY.refuses(Check.NOT_ALLOWED, x -> x.balance(13, 2));
        BUSY.refuses(Check.NOT_ALLOWED, x -> x.balance(2, 13));
        BUSY.refuses(Check.NOT_ALLOWED, x -> x.balance(13, 12));
        BUSY.refuses(Check.NOT_ALLOWED, x -> x.balance(13, 13));
        BUSY.refuses(Check.NO_INDEX, x -> x.balance(13, NO_GEAR));
        BUSY.refuses(Check.NO_INDEX, x -> x.balance(NO_GEAR, 2));
    }

    private static void sections() {
        // The cone of 0 and 1 is 36055 long, of which the width, 12000, is less than a third.
        BUSY.tells(x -> x.section(0, 1, 0, 1));
        BUSY.refuses(Check.NO_INDEX, x -> x.section(NO_GEAR, 0, 0, 0));
        BUSY.refuses(Check.NO_INDEX, x -> x.section(0, NO_GEAR, 1, 1));
        BUSY.refuses(Check.NO_INDEX, x -> x.section(15, NO_GEAR, 0, 1));
        BUSY.refuses(Check.BAD_ARGUMENT, x -> x.section(15, 0, 1, 1));
        BUSY.refuses(Check.BAD_ARGUMENT, x -> x.section(0, 12, 0, 51));
        BUSY.refuses(Check.BAD_ARGUMENT, x -> x.section(0, 1, 0, 0));
        BUSY.refuses(Check.BAD_ARGUMENT, x -> x.section(0, 1, -1, 0));
        BUSY.refuses(Check.NOT_ALLOWED, x -> x.section(15, 0, 0, 1));
        BUSY.refuses(Check.NOT_ALLOWED, x -> x.section(1, 12, 0, 1));
        BUSY.refuses(Check.NOT_ALLOWED, x -> x.section(12, 1, 0, 1));
        BUSY.refuses(Check.NOT_ALLOWED, x -> x.section(15, 12, 0, 1));
    }

    private static void trains() {
        BUSY.refuses(Check.BAD_ARGUMENT, x -> x.bestPair(1, 1, 50, 49));
        BUSY.refuses(Check.BAD_ARGUMENT, x -> x.bestMate(1, 1, 50, 49));
        BUSY.refuses(Check.BAD_ARGUMENT, x -> x.bestPair(0, 0, 5, 201));
        BUSY.refuses(Check.BAD_ARGUMENT, x -> x.planets(20, 20, 3));
        BUSY.refuses(Check.BAD_ARGUMENT, x -> x.planets(20, 19, 7));
        BUSY.refuses(Check.BAD_ARGUMENT, x -> x.rings(20, 7, 199, 10000));
        BUSY.tells(x -> x.bestPair(355, 113, 6, 120));
        BUSY.tells(x -> x.bestMate(355, 113, 6, 120));
        BUSY.tells('g', x -> x.planets(18, 54, 4));
        BUSY.tells(3, x -> x.rings(20, 3, 400, 500));
    }

    private static void boxesAndMachines() {
        FULL.refuses(Check.BAD_STATE, x -> x.wheel(20));
        FULL.refuses(Check.BAD_ARGUMENT, x -> x.wheel(14));
        FULL.refuses(Check.BAD_ARGUMENT, x -> x.wheel(128));
        FULL.refuses(Check.BAD_STATE, x -> x.hob(2000, 1, 60000, 3));
        FULL.refuses(Check.BAD_ARGUMENT, x -> x.hob(499, 1, 60000, 3));
        FULL.refuses(Check.BAD_ARGUMENT, x -> x.hob(2000, 5, 60000, 3));
        FULL.refuses(Check.BAD_ARGUMENT, x -> x.hob(2000, 1, 19999, 3));
        FULL.refuses(Check.BAD_ARGUMENT, x -> x.hob(2000, 1, 60000, 21));
        FULL.refuses(Check.BAD_STATE, x -> x.machine('h', 5));
        FULL.refuses(Check.BAD_ARGUMENT, x -> x.machine('x', 5));
        FULL.refuses(Check.BAD_ARGUMENT, x -> x.machine('h', 0));
        BUSY.refuses(Check.BAD_ARGUMENT, x -> x.setMachine(0, 60));
        BUSY.refuses(Check.BAD_ARGUMENT, x -> x.setMachine(30, 1));
    }

    private static void settings() {
        Scenario three = new Scenario();
        for (int i = 0; i < 3; i++) {
            three.then(x -> x.wheel(20));
        }
        three.then(x -> x.gear(20, 2000, 0, 20000)).then(x -> x.gear(20, 2000, 7, 20000));
        three.then(x -> x.hob(2000, 1, 60000, 3));
        Scenario four = three.copy().then(x -> x.wheel(20));
        for (Scenario few : new Scenario[] {NEW, three}) {
            few.refuses(Check.NO_ELEMENT, x -> x.change(1, 1, 0));
            few.refuses(Check.BAD_ARGUMENT, x -> x.change(1, 1, 4));
            few.refuses(Check.BAD_ARGUMENT, x -> x.change(0, 1, 0));
            few.refuses(Check.NO_ELEMENT, x -> x.meets(1, 1, 0));
            few.refuses(Check.BAD_ARGUMENT, x -> x.meets(1, 1, -1));
            few.refuses(Check.BAD_ARGUMENT, x -> x.meets(1, 10000, 0));
        }
        three.refuses(Check.NO_ELEMENT, x -> x.indexes(0, 0, 0));
        three.refuses(Check.NO_ELEMENT, x -> x.indexes(1, 0, 0));
        three.refuses(Check.BAD_ARGUMENT, x -> x.indexes(0, 0, 1000000));
        three.refuses(Check.NO_INDEX, x -> x.indexes(2, 0, 0));
        three.refuses(Check.NO_INDEX, x -> x.indexes(0, 1, 0));
        three.refuses(Check.NO_INDEX, x -> x.indexes(0, 1, -1));
        three.refuses(Check.NO_ELEMENT, x -> x.differs(1, 0, 0));
        three.refuses(Check.NOT_ALLOWED, x -> x.differs(0, 0, 0));
        three.refuses(Check.BAD_ARGUMENT, x -> x.differs(0, 0, -1));
        three.refuses(Check.BAD_ARGUMENT, x -> x.differs(1, 0, 1000000));
        three.refuses(Check.NO_INDEX, x -> x.differs(2, 0, -1));
        three.refuses(Check.NO_INDEX, x -> x.differs(0, 1, 0));
        three.refuses(Check.NO_INDEX, x -> x.differs(1, 1, 0));
        four.tells(20, x -> x.change(9999, 1, 3));
        four.tells(true, x -> x.meets(1, 1, 0));
        four.tells(false, x -> x.indexes(0, 0, 0));
        four.tells(false, x -> x.differs(1, 0, 999999 / 2));
        four.refuses(Check.NOT_ALLOWED, x -> x.differs(0, 0, 0));
    }

    private static void cuts() {
        BUSY.refuses(Check.NO_INDEX, x -> x.shoulder(NO_GEAR, -2));
        BUSY.refuses(Check.NO_INDEX, x -> x.cut(NO_GEAR, NO_HOB, 501));
        BUSY.refuses(Check.NO_INDEX, x -> x.cut(2, NO_HOB, 0));
        BUSY.refuses(Check.NO_INDEX, x -> x.cut(NO_GEAR, 4, 0));
        BUSY.refuses(Check.BAD_ARGUMENT, x -> x.cut(2, 0, 501));
        BUSY.refuses(Check.BAD_ARGUMENT, x -> x.cut(0, 4, -1));
        BUSY.refuses(Check.BAD_ARGUMENT, x -> x.cut(12, 0, -1));
        for (int i = 2; i <= 9; i++) {
            int cut = i;
            BUSY.refuses(Check.NOT_ALLOWED, x -> x.cut(cut, 0, 50));
        }
        // The module, the room to the shoulder, the blunt place, and the hand.
        BUSY.refuses(Check.NOT_ALLOWED, x -> x.cut(12, 0, 50));
        BUSY.refuses(Check.NOT_ALLOWED, x -> x.cut(0, 2, 50));
        BUSY.refuses(Check.NOT_ALLOWED, x -> x.cut(14, 0, 50));
        BUSY.refuses(Check.NOT_ALLOWED, x -> x.cut(0, 4, 50));
        BUSY.refuses(Check.NOT_ALLOWED, x -> x.cut(11, 1, 50));
        BUSY.refuses(Check.NOT_ALLOWED, x -> x.cut(17, 1, 50));
    }

    private static void hobs() {
        BUSY.refuses(Check.NO_INDEX, x -> x.wear(NO_HOB, 20));
        BUSY.refuses(Check.NO_INDEX, x -> x.wear(0, 20));
        BUSY.refuses(Check.NO_INDEX, x -> x.wear(4, 1));
        BUSY.refuses(Check.NOT_ALLOWED, x -> x.regrind(3));
        BUSY.refuses(Check.NOT_ALLOWED, x -> x.regrind(5));
        BUSY.refuses(Check.NO_INDEX, x -> x.regrind(NO_HOB));
        BUSY.tells(x -> x.approach(5));
        BUSY.tells(200, x -> x.wear(4, 0));
        BUSY.tells(24, x -> x.wear(0, 0));
        BUSY.tells(31, x -> x.wear(0, 7));
    }

    private static void heat() {
        BUSY.refuses(Check.NO_INDEX, x -> x.harden(NO_GEAR, 0, true));
        BUSY.refuses(Check.BAD_ARGUMENT, x -> x.harden(0, 0, true));
        BUSY.refuses(Check.BAD_ARGUMENT, x -> x.harden(3, 100, false));
        for (int gear : new int[] {0, 3, 4, 5, 6, 7}) {
            BUSY.refuses(Check.NOT_ALLOWED, x -> x.harden(gear, 1, true));
        }
        for (int gear : new int[] {0, 2, 5, 6, 8}) {
            BUSY.refuses(Check.NOT_ALLOWED, x -> x.isClean(gear));
        }
        BUSY.tells(false, x -> x.isClean(3));
        BUSY.tells(1000, x -> x.caseOf(3));
        BUSY.tells(950, x -> x.caseOf(4));
        BUSY.tells(0, x -> x.caseOf(2));
    }

    private static void grinding() {
        BUSY.refuses(Check.NO_INDEX, x -> x.grind(NO_GEAR, 0, 0));
        BUSY.refuses(Check.BAD_ARGUMENT, x -> x.grind(0, 0, 1));
        BUSY.refuses(Check.BAD_ARGUMENT, x -> x.grind(4, 100, 1));
        BUSY.refuses(Check.BAD_ARGUMENT, x -> x.grind(5, 1, 0));
        BUSY.refuses(Check.BAD_ARGUMENT, x -> x.grind(6, 1, 1000));
        for (int gear : new int[] {0, 4, 5, 6, 7, 16}) {
            BUSY.refuses(Check.NOT_ALLOWED, x -> x.grind(gear, 1, 1));
        }
    }

    private static void charts() {
        BUSY.refuses(Check.NO_INDEX, x -> x.chart(NO_GEAR, 20, 501));
        BUSY.refuses(Check.BAD_ARGUMENT, x -> x.chart(0, 20, 501));
        BUSY.refuses(Check.BAD_ARGUMENT, x -> x.chart(0, -1, 0));
        BUSY.refuses(Check.BAD_ARGUMENT, x -> x.chart(0, 0, -501));
        BUSY.refuses(Check.NO_INDEX, x -> x.part(NO_GEAR, 0));
        BUSY.refuses(Check.BAD_ARGUMENT, x -> x.part(0, 3));
        BUSY.refuses(Check.BAD_ARGUMENT, x -> x.part(0, 40));
        BUSY.refuses(Check.BAD_ARGUMENT, x -> x.part(0, -20));
        BUSY.tells(12, x -> x.part(0, 20));
        BUSY.tells(0, x -> x.part(0, 1));
        BUSY.tells(11, x -> x.total(0));
        BUSY.tells(x -> x.grade(2));
        BUSY.tells('s', x -> x.cause(0));
    }

    private static void rolling() {
        BUSY.refuses(Check.NO_INDEX, x -> x.peak(NO_GEAR, 0, 20));
        BUSY.refuses(Check.NO_INDEX, x -> x.peak(0, NO_GEAR, -1));
        BUSY.refuses(Check.BAD_ARGUMENT, x -> x.peak(0, 0, 20));
        BUSY.refuses(Check.BAD_ARGUMENT, x -> x.peak(0, 12, 30));
        BUSY.refuses(Check.NOT_ALLOWED, x -> x.peak(0, 0, 19));
        BUSY.refuses(Check.NOT_ALLOWED, x -> x.peak(0, 12, 29));
        BUSY.refuses(Check.NOT_ALLOWED, x -> x.peak(10, 1, 0));
        BUSY.refuses(Check.NO_INDEX, x -> x.note(NO_GEAR, NO_GEAR, 0));
        BUSY.refuses(Check.NO_INDEX, x -> x.note(0, NO_GEAR, 1));
        BUSY.refuses(Check.BAD_ARGUMENT, x -> x.note(0, 0, 0));
        BUSY.refuses(Check.BAD_ARGUMENT, x -> x.note(0, 12, 201));
        BUSY.refuses(Check.NOT_ALLOWED, x -> x.note(0, 0, 1));
        BUSY.refuses(Check.NOT_ALLOWED, x -> x.note(0, 12, 200));
        BUSY.refuses(Check.NOT_ALLOWED, x -> x.note(10, 1, 5));
        BUSY.tells(x -> x.peak(8, 9, 3));
        BUSY.tells(x -> x.quietest(0, 2));
        BUSY.tells(x -> x.note(0, 2, 2));
        BUSY.tells(true, x -> x.hunts(8, 9));
    }

    private static void strength() {
        BUSY.refuses(Check.NO_INDEX, x -> x.life(NO_GEAR, 0));
        BUSY.refuses(Check.BAD_ARGUMENT, x -> x.life(6, 0));
        BUSY.tells(x -> x.bears(3));
        BUSY.tells(x -> x.life(0, 300));
        BUSY.tells(-1, x -> x.life(0, 1));
        BUSY.tells(x -> x.damage(6));
    }

    private static void runs() {
        BUSY.refuses(Check.NO_INDEX, x -> x.run(NO_GEAR, 2, 0, 0));
        BUSY.refuses(Check.NO_INDEX, x -> x.run(2, NO_GEAR, 1, 1));
        BUSY.refuses(Check.NO_INDEX, x -> x.run(NO_GEAR, NO_GEAR, 1, 1));
        BUSY.refuses(Check.BAD_ARGUMENT, x -> x.run(2, 2, 0, 1));
        BUSY.refuses(Check.BAD_ARGUMENT, x -> x.run(2, 12, 1, 0));
        BUSY.refuses(Check.BAD_ARGUMENT, x -> x.run(0, 2, 100000, 1));
        BUSY.refuses(Check.BAD_ARGUMENT, x -> x.run(6, 7, 1, 1000000));
        BUSY.refuses(Check.NOT_ALLOWED, x -> x.run(2, 2, 1, 1));
        for (int gear : new int[] {0, 5, 6, 7, 8, 9, 12, 10}) {
            BUSY.refuses(Check.NOT_ALLOWED, x -> x.run(2, gear, 900, 900));
            BUSY.refuses(Check.NOT_ALLOWED, x -> x.run(gear, 2, 900, 900));
        }
        // The gears of a set run together alone; two of which each is in a set of its own do not.
        Scenario sets = BUSY.copy().then(x -> x.match(24, 36, 1));
        sets.refuses(Check.NOT_ALLOWED, x -> x.run(8, 3, 1, 1));
        sets.refuses(Check.NOT_ALLOWED, x -> x.run(3, 8, 1, 1));
        Check.is(0, () -> sets.shop().run(8, 9, 1, 1));
        sets.tells(4, x -> x.mate(3));
        sets.refuses(Check.NOT_ALLOWED, x -> x.run(3, 2, 1, 1));
        Check.is(0, () -> sets.shop().run(3, 4, 1, 1));
    }

    private static void sets() {
        BUSY.refuses(Check.BAD_ARGUMENT, x -> x.match(20, 20, 1));
        BUSY.refuses(Check.BAD_ARGUMENT, x -> x.match(20, 31, 0));
        BUSY.refuses(Check.BAD_ARGUMENT, x -> x.match(99, 98, 5));
        BUSY.refuses(Check.BAD_ARGUMENT, x -> x.match(99, 99, 1));
        // 8 and 9 are in a set, 5 to 7 scrap or broken; there are two with 24 teeth, but one with 36.
        BUSY.refuses(Check.NO_ELEMENT, x -> x.match(20, 31, 1));
        BUSY.refuses(Check.NO_ELEMENT, x -> x.match(25, 35, 1));
        BUSY.refuses(Check.NO_ELEMENT, x -> x.match(24, 36, 2));
        BUSY.refuses(Check.NO_ELEMENT, x -> x.match(24, 30, 1));
        BUSY.refuses(Check.NO_ELEMENT, x -> x.mate(2));
        BUSY.refuses(Check.NOT_ALLOWED, x -> x.separate(2));
        BUSY.tells(9, x -> x.mate(8));
        BUSY.tells(8, x -> x.mate(9));
        Scenario apart = BUSY.copy().then(x -> x.separate(9));
        apart.refuses(Check.NO_ELEMENT, x -> x.mate(8));
        apart.refuses(Check.NO_ELEMENT, x -> x.mate(9));
        apart.refuses(Check.NOT_ALLOWED, x -> x.separate(8));
        apart.refuses(Check.NOT_ALLOWED, x -> x.separate(9));
    }

    private static void shop() {
        BUSY.refuses(Check.BAD_ARGUMENT, x -> x.machine('x', 0));
        BUSY.refuses(Check.NO_INDEX, x -> x.toolsAt(3, -1));
        BUSY.refuses(Check.BAD_ARGUMENT, x -> x.toolsAt(2, 10000));
        BUSY.refuses(Check.NO_INDEX, x -> x.route(NO_GEAR, 'x'));
        BUSY.refuses(Check.BAD_ARGUMENT, x -> x.route(1, 'x'));
        BUSY.refuses(Check.BAD_STATE, x -> x.route(1, 'h'));
        BUSY.tells(27, x -> x.doneAt(0));
        BUSY.tells(0, x -> x.doneAt(2));
        Scenario missing = BUSY.copy().then(x -> x.route(17, 'c'));
        for (int gear : new int[] {0, 1, 2, 17}) {
            missing.refuses(Check.NO_ELEMENT, x -> x.doneAt(gear));
        }
        missing.refuses(Check.NO_INDEX, x -> x.doneAt(NO_GEAR));
    }

    private static void oldGears() {
        BUSY.refuses(Check.NO_ELEMENT, x -> x.oldModule(20, 9999999, 0));
        BUSY.refuses(Check.NO_ELEMENT, x -> x.oldShift(20, 9999999, 0));
        BUSY.refuses(Check.BAD_ARGUMENT, x -> x.oldModule(20, 9999999, -1));
        BUSY.refuses(Check.BAD_ARGUMENT, x -> x.oldShift(5, 9999999, 0));
        BUSY.tells(2000, x -> x.oldModule(20, 43500, 300));
        BUSY.tells(-5, x -> x.oldShift(20, 43500, 300));
    }

    private static void sums() {
        NEW.refuses(Check.NO_QUOTIENT, x -> x.cutShare());
        NEW.refuses(Check.NO_QUOTIENT, x -> x.meanGrade());
        BUSY.tells(9.0f / 18.0f, x -> x.cutShare());
        BUSY.tells(x -> x.meanGrade());
        BUSY.tells(x -> x.allDamage());
        BUSY.tells(true, x -> x.isSound());
    }
}
