import java.util.Random;

/**
 * The sentences of the document's "Terms" that name an edge: too many, the last place and round, not less than, at
 * least, at most, of several. Each has a test of its own, on both sides of the edge.
 */
final class EdgesTest {
    public static void main(String[] args) {
        fiveHundredAndTwelveCalls();
        fullShop();
        contactsBelowZero();
        linesWithoutHeadOfTooth();
        sectionsOfOneGear();
        severalBalances();
        severalTrains();
        smallestPlanets();
        severalChanges();
        partsOfAMillion();
        placesGoRound();
        placesWithTwoHundred();
        onlyThePlaceNextInTurn();
        refusedCutsDoNotTurn();
        teethDividedByStarts();
        handsOfManyStarts();
        approachAndRoom();
        regroundEight();
        regroundToTheLeastDiameter();
        stepsOfDoubleGears();
        oldAndNewCases();
        gradesOfTotals();
        gradesOfProfiles();
        alikeCauses();
        wholeCircleOfRolling();
        damageOfAMillion();
        damageOfLifeZero();
        lifeUnderGreaterTorques();
        sixthGears();
        severalSets();
        setsKeepTogether();
        machinesOneAtATime();
        severalOldGears();
        Check.end();
    }

    /** The last call that is promised is answered as the first one. */
    private static void fiveHundredAndTwelveCalls() {
        Hobhouse x = new Hobhouse();
        x.gear(24, 2000, 0, 20000);
        for (int i = 1; i < 511; i++) {
            int before = i == 1 ? 0 : i - 1;
            int error = i;
            Check.is(error > 500 ? Check.BAD_ARGUMENT : (Object) before, () -> x.chart(0, 5, error));
        }
        Check.is(500, () -> x.chart(0, 5, 1));
    }

    private static void fullShop() {
        Hobhouse x = new Hobhouse();
        for (int i = 0; i < 20; i++) {
            int number = i;
            Check.is(number, () -> x.gear(20 + number, 2000, 0, 20000));
        }
        for (int i = 0; i < 8; i++) {
            int number = i;
            Check.is(number, () -> x.hob(number == 7 ? 2000 : 3000, 1, 60000, 20));
        }
        for (int i = 0; i < 16; i++) {
            int count = i + 1;
            Check.is(count, () -> x.wheel(count > 12 ? 20 * (count - 12) : 127));
        }
        for (int i = 0; i < 6; i++) {
            int number = i;
            Check.is(number, () -> x.machine(number == 5 ? 'g' : 'h', 9));
        }
        Check.is(Check.BAD_STATE, () -> x.gear(6, 500, 0, 1000));
        Check.is(Check.BAD_STATE, () -> x.hob(2000, 1, 60000, 20));
        Check.is(Check.BAD_STATE, () -> x.wheel(15));
        Check.is(Check.BAD_STATE, () -> x.machine('f', 9));
        Check.is(78000, () -> x.diameter(19));
        Check.is(0, () -> x.cut(19, 7, 0));
        Check.is(39, () -> x.wear(7, 0));
        Check.is('c', () -> x.stateOf(19));
        // 20 20 by 60 80 needs all of the last four: 20, 40, 60 and 80.
        Check.is(20, () -> x.change(1, 6, 0));
        Check.is(60, () -> x.change(1, 6, 1));
        Check.is(40, () -> x.change(1, 6, 2));
        Check.is(80, () -> x.change(1, 6, 3));
        Check.is(1, () -> x.route(19, 'g'));
        Check.is(9, () -> x.doneAt(19));
        Check.is(Check.NO_INDEX, () -> x.tip(20));
        Check.is(Check.NO_INDEX, () -> x.approach(8));
        Check.is(Check.NO_INDEX, () -> x.toolsAt(6, 0));
        Check.is(1.0f / 20.0f, () -> x.cutShare());
    }

    /** With shifts by and by, the contact comes down to 0; the path itself is -1 then, by the cut roots. */
    private static void contactsBelowZero() {
        Hobhouse x = new Hobhouse();
        x.gear(6, 2000, 0, 20000);
        x.gear(6, 2000, 0, 20000);
        for (int shift = 100; shift >= -100; shift -= 2) {
            x.setShift(0, shift);
            x.setShift(1, shift);
            long path = pathOf(6, 2000, shift);
            long base = Check.root(7810L * 2000 * 7810 * 2000 / 137) / 113;
            Check.is(path < 0 ? 0 : 1000 * path / base, () -> x.contact(0, 1));
        }
        Check.equal(-1, pathOf(6, 2000, -100));
        Check.is(0, () -> x.contact(0, 1));
        x.setShift(1, -99);
        Check.equal(true, x.contact(0, 1) > 0);
    }

    private static long pathOf(int teeth, int module, int shift) {
        long sum = 2L * teeth * module;
        return 2 * lineOf(teeth, module, shift) - Check.root(16 * sum * sum / 137);
    }

    private static long lineOf(int teeth, int module, int shift) {
        long pitch = (long) teeth * module;
        long outer = pitch + 2 * module + 2L * shift * module / 100;
        return Check.root((137 * outer * outer - 121 * pitch * pitch) / 137);
    }

    /** At the least shift the tip is the pitch circle, where the way is 0. */
    private static void linesWithoutHeadOfTooth() {
        Hobhouse x = new Hobhouse();
        x.gear(6, 500, 0, 20000);
        x.gear(200, 500, 0, 20000);
        x.setShift(0, -100);
        x.setShift(1, -100);
        Check.is(3000, () -> x.tip(0));
        Check.is(100000, () -> x.tip(1));
        Check.is(0, () -> x.slide(0, 1));
        x.setShift(1, 100);
        long way = lineOf(200, 500, 100) - Check.root(16L * 100000 * 100000 / 137);
        Check.is(way, () -> x.slide(0, 1));
        Check.is(way, () -> x.slide(1, 0));
    }

    /** Nothing forbids a gear at right angles with one like itself. */
    private static void sectionsOfOneGear() {
        Hobhouse x = new Hobhouse();
        x.gear(20, 3000, 0, 14142);
        x.gear(20, 3000, 0, 14143);
        // The cone is root(2 60000 60000) / 2 = 42426 long.
        Check.is(3000, () -> x.section(0, 0, 0, 50));
        Check.is(3000 * (42426 - 14142 * 49 / 50) / 42426, () -> x.section(0, 0, 49, 50));
        Check.is(3000 * (42426 - 14142 * 2 / 3) / 42426, () -> x.section(0, 1, 2, 3));
        Check.is(Check.NOT_ALLOWED, () -> x.section(1, 0, 0, 50));
    }

    /** The slide is the same at two shifts next to each other; the least amount wins. */
    private static void severalBalances() {
        int[][] ties = {{20, 19, 0}, {19, 20, 0}, {26, 42, 3}, {42, 26, -3}, {16, 124, 12}, {124, 16, -12}, {30, 30, 0}};
        for (int[] tie : ties) {
            Hobhouse x = new Hobhouse();
            x.gear(tie[0], 500, 5, 5000);
            x.gear(tie[1], 500, -5, 5000);
            Check.is(tie[2], () -> x.balance(0, 1));
            long slide = x.slide(0, 1);
            int next = tie[2] + (tie[0] < tie[1] ? 1 : -1);
            x.setShift(0, next);
            x.setShift(1, -next);
            Check.equal(tie[0] != tie[1], slide == x.slide(0, 1));
            Check.is(next, () -> x.setShift(0, 0));
            Check.is(-next, () -> x.setShift(1, 0));
        }
    }

    private static void severalTrains() {
        // 13 by 12 is in the middle of 6 by 6, or 7 by 7, and 7 by 6, which have no common divisor.
        train(7, 6, 13, 12, 6, 7);
        // 97 by 112 is in the middle of 6 by 7 and 7 by 8, and 97 by 84 of 8 by 7 and 7 by 6.
        train(6, 7, 97, 112, 6, 8);
        train(7, 6, 97, 84, 6, 8);
        // All that give 2 exactly have a common divisor: the fewest teeth are left.
        train(12, 6, 2, 1, 6, 200);
        train(40, 20, 2, 1, 20, 60);
        train(6, 6, 1, 1, 6, 200);
        train(200, 6, 9999, 1, 6, 200);
        train(6, 200, 1, 9999, 6, 200);
        train(200, 200, 9999, 1, 200, 200);
        train(7, 6, 7, 6, 6, 200);
    }

    private static void train(int first, int second, int up, int down, int low, int high) {
        Hobhouse x = new Hobhouse();
        Check.is(first, () -> x.bestPair(up, down, low, high));
        Check.is(second, () -> x.bestMate(up, down, low, high));
    }

    private static void smallestPlanets() {
        Hobhouse x = new Hobhouse();
        Check.is('w', () -> x.planets(30, 40, 5));
        Check.is('w', () -> x.planets(30, 41, 5));
        // A planet of 6 teeth, for 72 teeth of both: 3, 4 and 6 go into them, 5 does not.
        Check.is('g', () -> x.planets(30, 42, 3));
        Check.is('g', () -> x.planets(30, 42, 4));
        Check.is('a', () -> x.planets(30, 42, 5));
        Check.is('g', () -> x.planets(30, 42, 6));
        Check.is('w', () -> x.planets(30, 31, 3));
        Check.is('w', () -> x.planets(200, 201, 3));
        // 3 divides the 606 teeth of both, but there is no room for planets of 297 teeth.
        Check.is('r', () -> x.planets(6, 600, 3));
        // A ring of 600 is the last one that is looked at.
        Check.is(1, () -> x.rings(200, 4, 400, 400));
        Check.is(0, () -> x.rings(200, 4, 401, 9999));
    }

    private static void severalChanges() {
        fourOf(new int[] {40, 20, 40, 20}, 1, 1, 20, 20, 40, 40);
        fourOf(new int[] {30, 30, 30, 30, 15}, 1, 1, 30, 30, 30, 30);
        // 25 by 72 is in the middle of 20 30 by 40 60 and 20 40 by 30 60; 25 by 8 of what these are upside down.
        fourOf(new int[] {60, 40, 30, 20}, 25, 72, 20, 30, 40, 60);
        fourOf(new int[] {60, 40, 30, 20}, 25, 8, 30, 20, 60, 40);
        // 1 is 20 60 by 30 40, and what follows from exchanging them.
        fourOf(new int[] {60, 40, 30, 20}, 1, 1, 20, 30, 60, 40);
    }

    private static void fourOf(int[] box, int up, int down, int... due) {
        Hobhouse x = new Hobhouse();
        for (int teeth : box) {
            x.wheel(teeth);
        }
        for (int i = 0; i < 4; i++) {
            int index = i;
            Check.is(due[index], () -> x.change(up, down, index));
        }
    }

    /** Four wheels alike give 1, whatever the ratio that is wanted. */
    private static void partsOfAMillion() {
        Hobhouse x = new Hobhouse();
        for (int i = 0; i < 4; i++) {
            x.wheel(127);
        }
        Check.is(true, () -> x.meets(1, 1, 0));
        Check.is(true, () -> x.meets(9999, 9999, 0));
        // The error by the ratio is 1 / 5000, which is 200 parts; 1 / 4999 is more, 1 / 9999 a bit more than 100.
        Check.is(true, () -> x.meets(5000, 4999, 200));
        Check.is(false, () -> x.meets(5000, 4999, 199));
        Check.is(true, () -> x.meets(4999, 5000, 201));
        Check.is(false, () -> x.meets(4999, 5000, 200));
        Check.is(true, () -> x.meets(9999, 9998, 101));
        Check.is(false, () -> x.meets(9999, 9998, 100));
        // The greatest error that can be met is all but the whole ratio.
        Check.is(true, () -> x.meets(9999, 1, 999900));
        Check.is(false, () -> x.meets(9999, 1, 999899));
        Check.is(false, () -> x.meets(1, 2, 999999));
        Check.is(false, () -> x.meets(1, 9999, 999999));
    }

    /** Twenty gears go round hobs of all lengths up to 19; of 20 places each is taken once. */
    private static void placesGoRound() {
        for (int places = 1; places <= 20; places++) {
            Hobhouse x = new Hobhouse();
            int length = places;
            x.hob(2000, 1, 60000, places);
            for (int i = 0; i < 20; i++) {
                int gear = i;
                x.gear(9, 2000, 0, 20000);
                Check.is(gear % length, () -> x.cut(gear, 0, 0));
            }
            for (int i = 0; i < places; i++) {
                int place = i;
                Check.is(9 * ((19 - place) / length + 1), () -> x.wear(0, place));
            }
            Check.is(Check.NO_INDEX, () -> x.wear(0, length));
        }
    }

    private static void placesWithTwoHundred() {
        int[][] teeth = {{199, 6}, {200, 0}, {100, 99, 6}, {100, 100, 0}, {100, 101, 0}, {193, 6, 200, 0}, {194, 6, 0}};
        for (int[] row : teeth) {
            Hobhouse x = new Hobhouse();
            x.hob(2000, 1, 60000, 1);
            int worn = 0;
            for (int i = 0; i < row.length; i++) {
                int gear = i;
                int due = worn;
                boolean isLast = row[i] == 0;
                x.gear(isLast ? 6 : row[i], 2000, 0, 20000);
                Check.is(due, () -> x.wear(0, 0));
                Check.is(isLast ? Check.NOT_ALLOWED : (Object) 0, () -> x.cut(gear, 0, 0));
                worn += row[i];
            }
            int all = worn;
            Check.is(all, () -> x.wear(0, 0));
        }
    }

    /** A fresh place does not help while the one next in turn cannot cut; a regrind does, at the same place. */
    private static void onlyThePlaceNextInTurn() {
        Hobhouse x = new Hobhouse();
        x.hob(2000, 1, 60000, 3);
        for (int teeth : new int[] {10, 200, 10, 10, 10, 10}) {
            x.gear(teeth, 2000, 0, 20000);
        }
        for (int i = 0; i < 4; i++) {
            int gear = i;
            Check.is(gear % 3, () -> x.cut(gear, 0, 0));
        }
        Check.is(Check.NOT_ALLOWED, () -> x.cut(4, 0, 0));
        Check.is(Check.NOT_ALLOWED, () -> x.cut(5, 0, 0));
        Check.is(20, () -> x.wear(0, 0));
        Check.is(10, () -> x.wear(0, 2));
        Check.is(1, () -> x.regrind(0));
        for (int i = 0; i < 3; i++) {
            int place = i;
            Check.is(0, () -> x.wear(0, place));
        }
        Check.is(1, () -> x.cut(4, 0, 0));
        Check.is(2, () -> x.cut(5, 0, 0));
        Check.is(0, () -> x.wear(0, 0));
        Check.is(10, () -> x.wear(0, 1));
    }

    private static void refusedCutsDoNotTurn() {
        Hobhouse x = new Hobhouse();
        x.hob(2000, 1, 60000, 2);
        x.gear(10, 2000, 0, 20000);
        x.gear(10, 2001, 0, 20000);
        x.gear(10, 2000, 0, 20000);
        Check.is(0, () -> x.cut(0, 0, 0));
        Check.is(Check.NOT_ALLOWED, () -> x.cut(0, 0, 0));
        Check.is(Check.NOT_ALLOWED, () -> x.cut(1, 0, 0));
        Check.is(Check.BAD_ARGUMENT, () -> x.cut(2, 0, 501));
        Check.is(Check.NO_INDEX, () -> x.cut(3, 0, 0));
        Check.is(10, () -> x.wear(0, 0));
        Check.is(0, () -> x.wear(0, 1));
        Check.is(1, () -> x.cut(2, 0, 0));
    }

    private static void teethDividedByStarts() {
        int[][] rows = {{6, 4, 1}, {7, 4, 1}, {8, 4, 2}, {199, 4, 49}, {200, 4, 50}, {200, 3, 66}, {7, 2, 3}, {6, 1, 6}};
        for (int[] row : rows) {
            Hobhouse x = new Hobhouse();
            x.hob(2000, row[1], 60000, 2);
            x.gear(row[0], 2000, 0, 20000);
            Check.is(0, () -> x.cut(0, 0, 0));
            Check.is(row[2], () -> x.wear(0, 0));
            Check.is(0, () -> x.wear(0, 1));
        }
    }

    private static void handsOfManyStarts() {
        for (int starts = 1; starts <= 4; starts++) {
            for (int helix : new int[] {-500, -1, 0, 1, 500}) {
                Hobhouse x = new Hobhouse();
                x.hob(2000, starts, 60000, 2);
                x.gear(20, 2000, helix, 20000);
                boolean isCut = starts == 1 || helix >= 0;
                Check.is(isCut ? (Object) 0 : Check.NOT_ALLOWED, () -> x.cut(0, 0, 0));
                Check.is(isCut ? 'c' : 'b', () -> x.stateOf(0));
            }
        }
    }

    private static void approachAndRoom() {
        int[][] hobs = {{2000, 60000}, {500, 20000}, {10000, 200000}, {8888, 20000}, {8889, 20000}, {10000, 20000}};
        for (int[] hob : hobs) {
            long depth = 9L * hob[0] / 4;
            long approach = Check.root(depth * (hob[1] - depth));
            for (int more = -1; more <= 1; more++) {
                Hobhouse x = new Hobhouse();
                x.hob(hob[0], 1, hob[1], 2);
                x.gear(20, hob[0], 0, 20000);
                Check.is(approach, () -> x.approach(0));
                int room = (int) approach + more;
                x.shoulder(0, room);
                // A room of -1 is none at all.
                Check.is(more == -1 && room >= 0 ? Check.NOT_ALLOWED : (Object) 0, () -> x.cut(0, 0, 0));
            }
        }
        Hobhouse x = new Hobhouse();
        x.hob(2000, 1, 60000, 2);
        x.gear(20, 2000, 0, 20000);
        x.shoulder(0, 15700);
        Check.is(Check.NOT_ALLOWED, () -> x.cut(0, 0, 0));
        // Each regrind makes the approach less: root(4500 54700) is 15689.
        for (int i = 0; i < 8; i++) {
            x.regrind(0);
        }
        Check.is(15689, () -> x.approach(0));
        Check.is(0, () -> x.cut(0, 0, 0));
    }

    private static void regroundEight() {
        Hobhouse x = new Hobhouse();
        x.hob(2000, 1, 60000, 2);
        x.gear(20, 2000, 0, 20000);
        for (int i = 1; i <= 8; i++) {
            int due = i;
            Check.is(due, () -> x.regrind(0));
        }
        long approach = Check.root(4500L * (59200 - 4500));
        x.cut(0, 0, 0);
        Check.is(Check.NOT_ALLOWED, () -> x.regrind(0));
        Check.is(approach, () -> x.approach(0));
        Check.is(20, () -> x.wear(0, 0));
    }

    private static void regroundToTheLeastDiameter() {
        for (int diameter : new int[] {20000, 20099, 20100, 20199, 20200, 20799, 20800, 20900}) {
            Hobhouse x = new Hobhouse();
            x.hob(2000, 1, diameter, 2);
            int times = Math.min(8, (diameter - 20000) / 100);
            for (int i = 1; i <= times; i++) {
                int due = i;
                Check.is(due, () -> x.regrind(0));
            }
            Check.is(Check.NOT_ALLOWED, () -> x.regrind(0));
            Check.is(Check.root(4500L * (diameter - 100 * times - 4500)), () -> x.approach(0));
        }
    }

    /** Turned by so many times the least part, and by more than a circle, they are in step; between, not. */
    private static void stepsOfDoubleGears() {
        Hobhouse x = new Hobhouse();
        for (int up = 0; up <= 130; up++) {
            int part = up;
            Check.is(true, () -> x.inStep(20, 30, part, 60));
            Check.is(part % 2 == 0, () -> x.inStep(20, 30, part, 120));
            Check.is(part % 3 == 0, () -> x.inStep(20, 30, part, 180));
            Check.is(part % 7 == 0, () -> x.inStep(20, 30, part, 7));
            Check.is(part % 4 == 0, () -> x.inStep(6, 6, part, 24));
        }
        int[] due = {0, 10, 0, 10};
        for (int tooth = 0; tooth < 20; tooth++) {
            int asked = tooth;
            Check.is(due[asked % 4], () -> x.clock(20, 30, asked));
        }
        // 19 teeth of 20 at 30 parts each are 570; the next one of the second stands at 580, each 20 parts.
        Check.is(10, () -> x.clock(20, 30, 19));
        Check.is(0, () -> x.clock(200, 200, 199));
        Check.is(1, () -> x.clock(200, 199, 1));
        Check.is(199, () -> x.clock(200, 199, 199));
    }

    private static void oldAndNewCases() {
        Hobhouse x = new Hobhouse();
        x.hob(2000, 1, 60000, 20);
        x.gear(24, 2000, 0, 20000);
        Check.is(0, () -> x.caseOf(0));
        x.cut(0, 0, 500);
        Check.is(0, () -> x.caseOf(0));
        for (int i = 0; i < 10; i++) {
            x.grind(0, 20, 500);
        }
        // What was ground off before the gear was hardened is not taken from its case.
        x.harden(0, 1, false);
        Check.is(500, () -> x.caseOf(0));
        x.grind(0, 1, 500);
        Check.is(499, () -> x.caseOf(0));
        for (int i = 0; i < 14; i++) {
            x.grind(0, 20, 500);
        }
        Check.is(219, () -> x.caseOf(0));
        Check.is('h', () -> x.stateOf(0));
        Check.is(0, () -> x.grind(0, 99, 500));
        Check.is(200, () -> x.caseOf(0));
        Check.is('g', () -> x.stateOf(0));
    }

    /** F by a fourth, which is cut, on both sides of each grade; no pitch is as bad. */
    private static void gradesOfTotals() {
        int[] grades = {2, 3, 4, 6, 8, 11, 16, 22, 32, 45, 64, 90, 128};
        for (int i = 0; i < grades.length; i++) {
            int grade = i;
            Check.is(grade, () -> gradeOfTotal(4 * grades[grade] + 3));
            Check.is(grade + 1, () -> gradeOfTotal(4 * grades[grade] + 4));
        }
    }

    private static int gradeOfTotal(int total) {
        Hobhouse x = new Hobhouse();
        x.gear(180, 2000, 0, 20000);
        for (int k = 0; k < 90; k++) {
            int error = total / 90 + (k < total % 90 ? 1 : 0);
            x.chart(0, k, error);
            x.chart(0, 90 + k, -error);
        }
        int due = total;
        Check.is(due, () -> x.total(0));
        return x.grade(0);
    }

    private static void gradesOfProfiles() {
        int[] due = {0, 0, 2, 3, 4, 5, 6, 6, 6};
        Hobhouse x = new Hobhouse();
        x.hob(2000, 1, 60000, 20);
        for (int i = 0; i < due.length; i++) {
            int gear = i;
            x.gear(20, 2000, 0, 20000);
            Check.is(0, () -> x.grade(gear));
            x.cut(gear, 0, 0);
            Check.is(due[gear], () -> x.grade(gear));
            if (gear < 8) {
                x.regrind(0);
            }
        }
        for (int i = 0; i < due.length; i++) {
            int gear = i;
            Check.is(due[gear], () -> x.grade(gear));
        }
        Check.is((0 + 0 + 2 + 3 + 4 + 5 + 6 + 6 + 6) / 9.0, () -> x.meanGrade());
    }

    private static void alikeCauses() {
        // Pitches of 20 and -20 by turns: all parts of even periods are 40, F is 20.
        Hobhouse x = new Hobhouse();
        x.hob(2000, 4, 60000, 20);
        x.gear(24, 2000, 0, 20000);
        x.cut(0, 0, 0);
        Check.is('n', () -> x.cause(0));
        for (int k = 0; k < 24; k++) {
            x.chart(0, k, k % 2 == 0 ? 20 : -20);
        }
        Check.is(40, () -> x.part(0, 2));
        Check.is(40, () -> x.part(0, 4));
        Check.is(20, () -> x.total(0));
        Check.is('m', () -> x.cause(0));
        x.setMachine(24, 35);
        Check.is('t', () -> x.cause(0));
        x.setMachine(24, 2);
        Check.is('m', () -> x.cause(0));
        // F is 20 as well as the part of 24: the ghost of a wheel of 48 comes first, but not that of one of 12.
        x.gear(24, 2000, 0, 20000);
        x.chart(1, 0, 20);
        x.chart(1, 12, -20);
        x.setMachine(24, 12);
        Check.is(20, () -> x.total(1));
        Check.is('s', () -> x.cause(1));
        x.chart(1, 0, 10);
        x.chart(1, 12, -10);
        x.setMachine(24, 48);
        Check.is(20, () -> x.part(1, 24));
        Check.is(10, () -> x.total(1));
        Check.is('m', () -> x.cause(1));
        hobAlikeTheSetting();
    }

    /** The part of the hob's two starts and F are the same, or one less than F. */
    private static void hobAlikeTheSetting() {
        Hobhouse x = new Hobhouse();
        x.hob(2000, 2, 60000, 20);
        x.gear(12, 2000, 0, 20000);
        x.cut(0, 0, 0);
        x.setMachine(24, 35);
        // The sums are 6 for the even ones and -6 for the odd ones: the part of 2 is 12 2 / 12 = 2; F is 2.
        x.chart(0, 0, 2);
        x.chart(0, 1, -2);
        x.chart(0, 2, 2);
        x.chart(0, 3, -2);
        x.chart(0, 4, 2);
        x.chart(0, 5, -2);
        Check.is(2, () -> x.part(0, 2));
        Check.is(2, () -> x.total(0));
        Check.is('t', () -> x.cause(0));
        x.chart(0, 5, 0);
        x.chart(0, 6, -2);
        Check.is(1, () -> x.part(0, 2));
        Check.is(2, () -> x.total(0));
        Check.is('s', () -> x.cause(0));
    }

    /** Rolled from each tooth of the second one, up to the last one, round both. */
    private static void wholeCircleOfRolling() {
        Random random = new Random(12);
        int[][] teeth = {{6, 6}, {6, 12}, {12, 6}, {8, 12}, {7, 9}, {30, 20}, {200, 100}};
        for (int[] pair : teeth) {
            Hobhouse x = new Hobhouse();
            x.gear(pair[0], 2000, 0, 20000);
            x.gear(pair[1], 2000, 0, 20000);
            int[] first = RollingTest.fill(x, 0, pair[0], random, 20, 300);
            int[] second = RollingTest.fill(x, 1, pair[1], random, 20, 300);
            for (int i = 0; i < pair[1]; i++) {
                int start = i;
                Check.is(RollingTest.duePeak(first, second, start), () -> x.peak(0, 1, start));
            }
            Check.is(Check.BAD_ARGUMENT, () -> x.peak(0, 1, pair[1]));
            Check.is(RollingTest.dueQuietest(first, second), () -> x.quietest(0, 1));
        }
        // All starts are alike if the teeth hunt, or without errors: the lowest one is the quietest.
        Hobhouse x = new Hobhouse();
        x.gear(7, 2000, 0, 20000);
        x.gear(9, 2000, 0, 20000);
        x.gear(21, 2000, 0, 20000);
        x.chart(0, 6, 70);
        x.chart(1, 8, -90);
        Check.is(0, () -> x.quietest(0, 1));
        Check.is(0, () -> x.quietest(0, 2));
        Check.is(0, () -> x.quietest(2, 0));
    }

    /** A gear with just 999999 runs on; one more part, or just 1000000 at once, breaks it. */
    private static void damageOfAMillion() {
        Hobhouse x = longRunners();
        int torque = 2000;
        long life = x.life(0, torque);
        Check.equal(true, life > 700000 && life < 999999);
        long[] parts = twoRuns(life, 999999);
        Check.is(0, () -> x.run(0, 1, torque, (int) parts[0]));
        Check.is(0, () -> x.run(0, 1, torque, (int) parts[1]));
        Check.is(999999, () -> x.damage(0));
        Check.is(999999, () -> x.damage(1));
        Check.is('c', () -> x.stateOf(0));
        Check.is(1999998, () -> x.allDamage());
        Check.is(2, () -> x.run(0, 1, torque, 1));
        Check.is(999999 + 1000000 / life, () -> x.damage(0));
        Check.is('/', () -> x.stateOf(0));
        Check.is(Check.NOT_ALLOWED, () -> x.run(0, 1, torque, 1));
        Hobhouse y = longRunners();
        Check.is(2, () -> y.run(0, 1, torque, (int) life));
        Check.is(1000000, () -> y.damage(0));
        Check.is('/', () -> y.stateOf(1));
        Hobhouse z = longRunners();
        Check.is(0, () -> z.run(0, 1, torque, (int) life - 1));
        Check.is(1000000 * (life - 1) / life, () -> z.damage(0));
    }

    /** Two gears alike that bear a bit less than 2000. */
    private static Hobhouse longRunners() {
        Hobhouse x = new Hobhouse();
        int width = 20000;
        while (bornWith(width + 10) < 1950) {
            width += 10;
        }
        for (int i = 0; i < 2; i++) {
            x.gear(60, 4000, 0, width);
        }
        x.hob(4000, 1, 90000, 20);
        x.cut(0, 0, 0);
        x.cut(1, 0, 0);
        return x;
    }

    private static int bornWith(int width) {
        Hobhouse x = new Hobhouse();
        x.gear(60, 4000, 0, width);
        return x.bears(0);
    }

    /** Turns of two runs by which the damage is just this. */
    private static long[] twoRuns(long life, long damage) {
        for (long first = 1; first < life; first++) {
            long rest = damage - 1000000 * first / life;
            long second = (rest * life + 999999) / 1000000;
            if (1000000 * second / life == rest) {
                return new long[] {first, second};
            }
        }
        return new long[] {0, 0};
    }

    private static void damageOfLifeZero() {
        Hobhouse x = new Hobhouse();
        for (int i = 0; i < 3; i++) {
            x.gear(36, 2000, 0, 20000);
        }
        x.hob(2000, 1, 60000, 20);
        for (int i = 0; i < 3; i++) {
            x.cut(i, 0, 0);
        }
        int torque = 187;
        while (x.life(0, torque) > 0 && torque < 99999) {
            torque++;
        }
        int lowest = torque;
        Check.is(0, () -> x.life(0, lowest));
        Check.is(1, () -> x.life(0, lowest - 1));
        Check.is(2, () -> x.run(0, 1, lowest, 999999));
        Check.is(1000000, () -> x.damage(0));
        Check.is(1000000, () -> x.damage(1));
        Check.is(0, () -> x.damage(2));
        Check.is(2000000, () -> x.allDamage());
    }

    private static void lifeUnderGreaterTorques() {
        Hobhouse x = new Hobhouse();
        x.gear(36, 2000, 0, 20000);
        Check.is(186, () -> x.bears(0));
        for (int torque : new int[] {1, 185, 186}) {
            Check.is(-1, () -> x.life(0, torque));
        }
        for (int torque : new int[] {187, 188, 1000, 99999, 100000, 100001, 999999}) {
            long due = 1000000;
            for (int i = 0; i < 6; i++) {
                due = due * 186 / torque;
            }
            long turns = due;
            Check.is(turns, () -> x.life(0, torque));
        }
        // A gear that bears 100000 is not asked for more, but does not bear it.
        x.gear(200, 10000, 0, 99999);
        x.hob(10000, 1, 200000, 20);
        x.cut(1, 0, 0);
        x.harden(1, 99, true);
        Check.is(100000, () -> x.bears(1));
        Check.is(-1, () -> x.life(1, 100000));
        long due = 1000000;
        for (int i = 0; i < 6; i++) {
            due = due * 100000 / 100001;
        }
        long turns = due;
        Check.is(turns, () -> x.life(1, 100001));
    }

    /** Only the first 5 of each are looked at, and the sixth one is the first one's equal, or better, in vain. */
    private static void sixthGears() {
        for (int group = 0; group < 2; group++) {
            int many = group == 0 ? 20 : 31;
            int one = group == 0 ? 31 : 20;
            Hobhouse x = new Hobhouse();
            x.hob(2000, 1, 60000, 20);
            for (int i = 0; i < 6; i++) {
                x.gear(many, 2000, 0, 20000);
                x.cut(i, 0, 0);
                x.chart(i, 0, i == 5 ? 0 : 100 - 10 * i);
            }
            x.gear(one, 2000, 0, 20000);
            x.cut(6, 0, 0);
            int due = x.peak(4, 6, x.quietest(4, 6));
            Check.equal(true, due > 0);
            Check.is(due, () -> x.match(20, 31, 1));
            Check.is(4, () -> x.mate(6));
            Check.is(Check.NO_ELEMENT, () -> x.mate(5));
            x.gear(one, 2000, 0, 20000);
            x.cut(7, 0, 0);
            // With 4 in a set, the sixth one is one of five.
            Check.is(0, () -> x.match(20, 31, 1));
            Check.is(7, () -> x.mate(5));
        }
        Hobhouse x = new Hobhouse();
        x.hob(2000, 1, 60000, 20);
        for (int i = 0; i < 6; i++) {
            x.gear(20, i < 5 ? 2000 : 2001, 0, 20000);
            x.gear(31, i < 5 ? 2001 : 2000, 0, 20000);
            if (i < 5) {
                x.cut(2 * i, 0, 0);
            }
        }
        x.hob(2001, 1, 60000, 20);
        for (int i = 0; i < 5; i++) {
            x.cut(2 * i + 1, 1, 0);
        }
        x.cut(10, 1, 0);
        x.cut(11, 0, 0);
        // The sixth ones would pair with the first five, but are not looked at.
        Check.is(true, () -> x.doPair(10, 1));
        Check.is(true, () -> x.doPair(11, 0));
        Check.is(Check.NO_ELEMENT, () -> x.match(20, 31, 1));
    }

    /** All sums are 0: the first ones by their numbers, each with the first of the second ones that is left. */
    private static void severalSets() {
        for (int many = 1; many <= 4; many++) {
            Hobhouse x = new Hobhouse();
            x.hob(2000, 1, 60000, 20);
            for (int i = 0; i < 10; i++) {
                x.gear(i % 2 == 0 ? 31 : 20, 2000, 0, 20000);
                x.cut(i, 0, 0);
            }
            int sets = many;
            Check.is(0, () -> x.match(20, 31, sets));
            for (int i = 0; i < 5; i++) {
                int second = 2 * i;
                int first = 2 * i + 1;
                Check.is(i < many ? (Object) second : Check.NO_ELEMENT, () -> x.mate(first));
                Check.is(i < many ? (Object) first : Check.NO_ELEMENT, () -> x.mate(second));
            }
            Check.is(true, () -> x.isSound());
            Check.is(many == 4 ? Check.NO_ELEMENT : (Object) 0, () -> x.match(20, 31, 2));
        }
    }

    /** A set stays one when its gears are scrap or broken, until it is broken up from either side. */
    private static void setsKeepTogether() {
        for (int side = 0; side < 2; side++) {
            int taken = side;
            Hobhouse x = new Hobhouse();
            x.hob(2000, 1, 60000, 20);
            for (int i = 0; i < 4; i++) {
                x.gear(i % 2 == 0 ? 20 : 31, 2000, 0, 20000);
                x.cut(i, 0, 99);
            }
            Check.is(0, () -> x.match(20, 31, 2));
            x.grind(1, 99, 999);
            Check.is(2, () -> x.run(2, 3, 99999, 999999));
            Check.is(Check.NOT_ALLOWED, () -> x.run(0, 1, 1, 1));
            Check.is(1, () -> x.mate(0));
            Check.is(0, () -> x.mate(1));
            Check.is(3, () -> x.mate(2));
            Check.is(true, () -> x.isSound());
            Check.is(1 - taken, () -> x.separate(taken));
            Check.is(Check.NO_ELEMENT, () -> x.mate(0));
            Check.is(Check.NO_ELEMENT, () -> x.mate(1));
            Check.is(3, () -> x.mate(2));
            Check.is(3 - taken, () -> x.separate(2 + taken));
            // The scrap one and the broken ones are not matched again.
            Check.is(Check.NO_ELEMENT, () -> x.match(20, 31, 1));
            x.gear(31, 2000, 0, 20000);
            x.cut(4, 0, 0);
            Check.is(0, () -> x.match(20, 31, 1));
            Check.is(4, () -> x.mate(0));
        }
    }

    private static void machinesOneAtATime() {
        Hobhouse x = new Hobhouse();
        x.machine('h', 99);
        x.toolsAt(0, 9999);
        for (int i = 0; i < 20; i++) {
            x.gear(20, 2000, 0, 20000);
            for (int k = 0; k < (i == 19 ? 8 : 0); k++) {
                x.route(i, 'h');
            }
        }
        Check.is(0, () -> x.doneAt(18));
        Check.is(9999 + 8 * 99, () -> x.doneAt(19));
        x.route(0, 'h');
        Check.is(9999 + 99, () -> x.doneAt(0));
        Check.is(9999 + 9 * 99, () -> x.doneAt(19));
        // A quicker machine takes those which it ends first, though the other one is free.
        x.machine('h', 98);
        x.toolsAt(1, 9999);
        Check.is(9999 + 98, () -> x.doneAt(0));
        x.toolsAt(0, 0);
        x.toolsAt(1, 0);
        Check.is(98, () -> x.doneAt(0));
        Check.is(99 + 7 * 98, () -> x.doneAt(19));
        gapsStayEmpty();
    }

    /** A gear that comes later in the order does not use a time at which the machine waits for an earlier one. */
    private static void gapsStayEmpty() {
        Hobhouse x = new Hobhouse();
        x.machine('f', 50);
        x.machine('g', 5);
        x.gear(20, 2000, 0, 20000);
        x.gear(20, 2000, 0, 20000);
        x.route(0, 'f');
        x.route(0, 'g');
        x.route(1, 'g');
        Check.is(55, () -> x.doneAt(0));
        Check.is(60, () -> x.doneAt(1));
    }

    private static void severalOldGears() {
        // The amount of the shift comes first: a greater tip of no shift, or a greater module of a lesser one.
        old(20, 44000, 1000, 2000, 0);
        old(20, 43961, 39, 2000, 0);
        old(20, 43961, 38, 0, 0);
        old(20, 43960, 38, 2000, -1);
        old(20, 44001, 39, 2000, 1);
        // 49500 is the tip of 2250 without a shift, 55000 that of 2500; within both, the least.
        old(20, 49400, 9999, 2250, 0);
        old(20, 49501, 9999, 2500, 0);
        // 6 teeth: 1750 with 50 and 2250 with -50 have the same tip, 15750; the least module is meant.
        old(6, 15750, 0, 1750, 50);
        old(6, 15751, 0, 0, 0);
        old(6, 3500, 0, 500, -50);
        old(6, 3499, 0, 0, 0);
        old(200, 2030000, 0, 10000, 50);
        old(200, 2030001, 9999, 0, 0);
    }

    /** With a module of 0 none is meant. */
    private static void old(int teeth, int tip, int worn, int module, int shift) {
        Hobhouse x = new Hobhouse();
        Check.is(module == 0 ? Check.NO_ELEMENT : (Object) module, () -> x.oldModule(teeth, tip, worn));
        Check.is(module == 0 ? Check.NO_ELEMENT : (Object) shift, () -> x.oldShift(teeth, tip, worn));
    }
}
