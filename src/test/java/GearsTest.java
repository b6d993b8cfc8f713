import java.util.Random;

/** Promises 1 to 15. */
final class GearsTest {
    public static void main(String[] args) {
        newShop();
        addGears();
        setShifts();
        lengths();
        undercutAndSharp();
        fewestTeeth();
        pairs();
        contactAndSlide();
        runsWellFrom1200();
        balances();
        balanceRefusals();
        sections();
        Check.end();
    }

    private static void newShop() {
        Hobhouse x = new Hobhouse();
        Check.is(Check.NO_INDEX, () -> x.diameter(0));
        Check.is(Check.NO_INDEX, () -> x.approach(0));
        Check.is(Check.NO_INDEX, () -> x.toolsAt(0, 0));
        Check.is(Check.NO_ELEMENT, () -> x.change(1, 1, 0));
        Check.is(1, () -> x.wheel(20));
        Check.is(0, () -> x.gear(24, 2000, 0, 20000));
        Check.is(0, () -> x.hob(2000, 1, 60000, 2));
        // The own wheel of 60 teeth has 12 in common with the gear.
        Check.is(0, () -> x.chart(0, 0, 5));
        Check.is(0, () -> x.chart(0, 12, 5));
        Check.is('m', () -> x.cause(0));
        Check.is(24, () -> x.setMachine(24, 59));
        Check.is('s', () -> x.cause(0));
        Hobhouse y = new Hobhouse();
        y.gear(24, 2000, 0, 20000);
        y.chart(0, 0, 12);
        // The part of 12 is 6, that of 24 is 12, and F is 11.
        Check.is('s', () -> y.cause(0));
        y.setMachine(24, 48);
        Check.is('m', () -> y.cause(0));
    }

    private static void addGears() {
        Hobhouse x = new Hobhouse();
        Check.is(Check.BAD_ARGUMENT, () -> x.gear(5, 1000, 0, 1000));
        Check.is(Check.BAD_ARGUMENT, () -> x.gear(201, 1000, 0, 1000));
        Check.is(Check.BAD_ARGUMENT, () -> x.gear(6, 499, 0, 1000));
        Check.is(Check.BAD_ARGUMENT, () -> x.gear(6, 10001, 0, 1000));
        Check.is(Check.BAD_ARGUMENT, () -> x.gear(6, 500, -501, 1000));
        Check.is(Check.BAD_ARGUMENT, () -> x.gear(6, 500, 501, 1000));
        Check.is(Check.BAD_ARGUMENT, () -> x.gear(6, 500, 0, 999));
        Check.is(Check.BAD_ARGUMENT, () -> x.gear(6, 500, 0, 100000));
        Check.is(0, () -> x.gear(6, 500, -500, 1000));
        Check.is(1, () -> x.gear(200, 10000, 500, 99999));
        for (int i = 2; i < 20; i++) {
            int number = i;
            Check.is(number, () -> x.gear(20, 1000, 0, 5000));
        }
        Check.is(Check.BAD_STATE, () -> x.gear(20, 1000, 0, 5000));
        Check.is(Check.BAD_ARGUMENT, () -> x.gear(5, 1000, 0, 5000));
        Check.is(3000, () -> x.diameter(0));
        Check.is(2000000, () -> x.diameter(1));
        Check.is(20000, () -> x.diameter(19));
        Check.is(Check.NO_INDEX, () -> x.diameter(20));
        Check.is(Check.NO_INDEX, () -> x.diameter(-1));
    }

    private static void setShifts() {
        Hobhouse x = new Hobhouse();
        x.gear(20, 2000, 0, 20000);
        x.hob(2000, 1, 60000, 1);
        Check.is(0, () -> x.setShift(0, -100));
        Check.is(-100, () -> x.setShift(0, 100));
        Check.is(Check.BAD_ARGUMENT, () -> x.setShift(0, 101));
        Check.is(Check.BAD_ARGUMENT, () -> x.setShift(0, -101));
        Check.is(Check.NO_INDEX, () -> x.setShift(1, 101));
        Check.is(Check.NO_INDEX, () -> x.setShift(-1, 0));
        Check.is(100, () -> x.setShift(0, 7));
        x.cut(0, 0, 0);
        Check.is(Check.BAD_ARGUMENT, () -> x.setShift(0, 101));
        Check.is(Check.NOT_ALLOWED, () -> x.setShift(0, 8));
        Check.is(44280, () -> x.tip(0));
    }

    private static void lengths() {
        Hobhouse x = new Hobhouse();
        x.gear(20, 2000, 0, 20000);
        x.gear(7, 999, 0, 20000);
        Check.is(40000, () -> x.diameter(0));
        Check.is(44000, () -> x.tip(0));
        x.setShift(0, 30);
        Check.is(45200, () -> x.tip(0));
        Check.is(40000, () -> x.diameter(0));
        x.setShift(1, -5);
        Check.is(6993 + 1998 - 99, () -> x.tip(1));
        x.setShift(1, 5);
        Check.is(6993 + 1998 + 99, () -> x.tip(1));
        Check.is(Check.NO_INDEX, () -> x.tip(2));
        Check.is(Check.NO_INDEX, () -> x.tip(-1));
    }

    private static void undercutAndSharp() {
        Hobhouse x = new Hobhouse();
        x.gear(17, 2000, 0, 20000);
        x.gear(18, 2000, 0, 20000);
        x.gear(6, 2000, 0, 20000);
        x.gear(30, 2000, 0, 20000);
        x.gear(29, 2000, 0, 20000);
        Check.is(true, () -> x.isUndercut(0));
        Check.is(false, () -> x.isUndercut(1));
        x.setShift(0, 1);
        Check.is(false, () -> x.isUndercut(0));
        x.setShift(1, -6);
        Check.is(true, () -> x.isUndercut(1));
        x.setShift(1, -5);
        Check.is(false, () -> x.isUndercut(1));
        Check.is(false, () -> x.isSharp(2));
        x.setShift(2, 40);
        Check.is(false, () -> x.isSharp(2));
        x.setShift(2, 41);
        Check.is(true, () -> x.isSharp(2));
        x.setShift(3, 100);
        Check.is(false, () -> x.isSharp(3));
        x.setShift(4, 97);
        Check.is(false, () -> x.isSharp(4));
        x.setShift(4, 98);
        Check.is(true, () -> x.isSharp(4));
        Check.is(Check.NO_INDEX, () -> x.isUndercut(5));
        Check.is(Check.NO_INDEX, () -> x.isUndercut(-1));
        Check.is(Check.NO_INDEX, () -> x.isSharp(5));
        Check.is(Check.NO_INDEX, () -> x.isSharp(-1));
    }

    private static void fewestTeeth() {
        Hobhouse x = new Hobhouse();
        for (int shift = -100; shift <= 100; shift++) {
            int asked = shift;
            int due = Math.max(1, (13700 - 137 * shift + 799) / 800);
            Check.is(due, () -> x.fewest(asked));
        }
        Check.is(35, () -> x.fewest(-100));
        Check.is(18, () -> x.fewest(0));
        Check.is(1, () -> x.fewest(100));
        Check.is(Check.BAD_ARGUMENT, () -> x.fewest(101));
        Check.is(Check.BAD_ARGUMENT, () -> x.fewest(-101));
    }

    private static void pairs() {
        Hobhouse x = new Hobhouse();
        x.gear(20, 2000, 0, 20000);
        x.gear(30, 2000, 0, 20000);
        x.gear(20, 2000, 200, 20000);
        x.gear(30, 2000, -200, 30000);
        x.gear(30, 2000, 200, 20000);
        x.gear(30, 2001, 0, 20000);
        Check.is(true, () -> x.doPair(0, 1));
        Check.is(true, () -> x.doPair(1, 0));
        Check.is(true, () -> x.doPair(2, 3));
        Check.is(false, () -> x.doPair(2, 4));
        Check.is(true, () -> x.doPair(4, 3));
        Check.is(false, () -> x.doPair(0, 2));
        Check.is(false, () -> x.doPair(0, 5));
        Check.is(Check.BAD_ARGUMENT, () -> x.doPair(3, 3));
        Check.is(Check.NO_INDEX, () -> x.doPair(0, 6));
        Check.is(Check.NO_INDEX, () -> x.doPair(6, 0));
        Check.is(Check.NO_INDEX, () -> x.doPair(6, 6));
        Check.is(Check.NO_INDEX, () -> x.doPair(-1, 0));
        Check.is(0, () -> x.overlap(0, 1));
        Check.is(636, () -> x.overlap(2, 3));
        Check.is(636, () -> x.overlap(3, 2));
        Check.is(954, () -> { x.gear(9, 2000, 200, 40000); return x.overlap(6, 3); });
        Check.is(Check.NOT_ALLOWED, () -> x.overlap(0, 5));
        Check.is(Check.NOT_ALLOWED, () -> x.overlap(1, 1));
        Check.is(Check.NO_INDEX, () -> x.overlap(1, 7));
        Check.is(Check.NO_INDEX, () -> x.overlap(7, 1));
        Check.is(Check.NOT_ALLOWED, () -> x.contact(0, 5));
        Check.is(Check.NOT_ALLOWED, () -> x.contact(2, 4));
        Check.is(Check.NOT_ALLOWED, () -> x.contact(0, 0));
        Check.is(Check.NO_INDEX, () -> x.contact(0, 7));
        Check.is(Check.NO_INDEX, () -> x.contact(-1, 0));
        Check.is(Check.NOT_ALLOWED, () -> x.runsWell(0, 5));
        Check.is(Check.NOT_ALLOWED, () -> x.runsWell(0, 0));
        Check.is(Check.NO_INDEX, () -> x.runsWell(0, 7));
        Check.is(Check.NO_INDEX, () -> x.runsWell(7, 0));
        Check.is(Check.NOT_ALLOWED, () -> x.slide(0, 5));
        Check.is(Check.NOT_ALLOWED, () -> x.slide(0, 0));
        Check.is(Check.NO_INDEX, () -> x.slide(0, 7));
        Check.is(Check.NO_INDEX, () -> x.slide(7, 0));
    }

    private static long line(int teeth, int module, int shift) {
        long pitch = (long) teeth * module;
        long outer = pitch + 2 * module + (2 * shift * module) / 100;
        return Check.root((137 * outer * outer - 121 * pitch * pitch) / 137);
    }

    private static long way(int teeth, int module, int shift) {
        long pitch = (long) teeth * module;
        return line(teeth, module, shift) - Check.root(16 * pitch * pitch / 137);
    }

    private static long dueContact(int one, int other, int module, int shiftOne, int shiftOther) {
        long sum = (long) (one + other) * module;
        long path = line(one, module, shiftOne) + line(other, module, shiftOther)
                - Check.root(16 * sum * sum / 137);
        long base = Check.root(7810L * module * 7810L * module / 137) / 113;
        return Math.max(0, 1000 * path / base);
    }

    private static void contactAndSlide() {
        Random random = new Random(1);
        for (int i = 0; i < 300; i++) {
            Hobhouse x = new Hobhouse();
            int one = 6 + random.nextInt(195);
            int other = 6 + random.nextInt(i % 2 == 0 ? 195 : 9);
            int module = 500 + random.nextInt(9501);
            int shiftOne = random.nextInt(201) - 100;
            int shiftOther = random.nextInt(201) - 100;
            x.gear(one, module, 10, 5000);
            x.gear(other, module, -10, 5000);
            x.setShift(0, shiftOne);
            x.setShift(1, shiftOther);
            long contact = dueContact(one, other, module, shiftOne, shiftOther);
            Check.is(contact, () -> x.contact(0, 1));
            Check.is(contact, () -> x.contact(1, 0));
            Check.is(Math.abs(way(one, module, shiftOne) - way(other, module, shiftOther)), () -> x.slide(0, 1));
            boolean isGood = !x.isUndercut(0) && !x.isUndercut(1) && !x.isSharp(0) && !x.isSharp(1);
            Check.is(isGood && contact + x.overlap(0, 1) >= 1200, () -> x.runsWell(0, 1));
        }
        Hobhouse x = new Hobhouse();
        x.gear(20, 2000, 0, 20000);
        x.gear(30, 2000, 0, 20000);
        Check.is(1605, () -> x.contact(0, 1));
        Check.is(571, () -> x.slide(0, 1));
        Check.is(571, () -> x.slide(1, 0));
        x.gear(200, 500, 0, 20000);
        x.gear(200, 500, 0, 20000);
        x.setShift(2, -100);
        x.setShift(3, -100);
        Check.is(0, () -> x.contact(2, 3));
    }

    /** A width is chosen by which contact and overlap are just 1200, and one just below it. */
    private static void runsWellFrom1200() {
        Hobhouse x = new Hobhouse();
        x.gear(100, 1000, 100, 90000);
        x.gear(100, 1000, -100, 90000);
        x.setShift(0, -50);
        x.setShift(1, -50);
        long missing = 1200 - x.contact(0, 1);
        int width = 1000;
        while ((long) width * 100 * 113 / 355000 < missing) {
            width++;
        }
        int enough = width;
        x.gear(100, 1000, -100, enough);
        x.gear(100, 1000, -100, enough - 1);
        x.setShift(2, -50);
        x.setShift(3, -50);
        Check.equal(true, missing > 40);
        Check.is(missing, () -> x.overlap(0, 2));
        Check.is(missing - 1, () -> x.overlap(0, 3));
        Check.is(true, () -> x.runsWell(0, 2));
        Check.is(false, () -> x.runsWell(0, 3));
        Hobhouse y = new Hobhouse();
        y.gear(30, 1000, 0, 9000);
        y.gear(29, 1000, 0, 9000);
        Check.is(true, () -> y.runsWell(0, 1));
        y.setShift(1, 98);
        Check.is(false, () -> y.runsWell(0, 1));
        Check.is(false, () -> y.runsWell(1, 0));
        y.setShift(1, 97);
        Check.is(true, () -> y.runsWell(1, 0));
        y.setShift(1, -80);
        Check.is(false, () -> y.runsWell(0, 1));
        Check.is(false, () -> y.runsWell(1, 0));
    }

    private static boolean isGood(int teeth, int shift) {
        return 137 * shift >= 100 * (137 - 8 * teeth) && 40 * shift <= 100 * (teeth + 10);
    }

    /** Goes from the least wanted shift to the most wanted one, and lets the later win when alike. */
    private static Object dueBalance(int one, int other, int module) {
        Object best = Check.NO_ELEMENT;
        long least = Long.MAX_VALUE;
        for (int amount = 50; amount >= 0; amount--) {
            for (int shift : new int[] {-amount, amount}) {
                if (isGood(one, shift) && isGood(other, -shift)) {
                    long slide = Math.abs(way(one, module, shift) - way(other, module, -shift));
                    if (slide <= least) {
                        least = slide;
                        best = (long) shift;
                    }
                }
            }
        }
        return best;
    }

    private static void balances() {
        Random random = new Random(2);
        for (int i = 0; i < 250; i++) {
            anyBalance(6 + random.nextInt(40), 6 + random.nextInt(i % 3 == 0 ? 195 : 30),
                    500 + random.nextInt(i % 2 == 0 ? 10 : 9501));
        }
        // With the shift that 9 teeth need at least, they are sharp; 10 teeth need 42.
        for (int few = 8; few <= 10; few++) {
            for (int other = 20; other <= 200; other += 15) {
                anyBalance(few, other, 3000);
                anyBalance(other, few, 3000);
            }
        }
    }

    private static void anyBalance(int one, int other, int module) {
        Hobhouse x = new Hobhouse();
        x.gear(one, module, 0, 5000);
        x.gear(other, module, 0, 5000);
        x.setShift(0, 3);
        x.setShift(1, 4);
        Object due = dueBalance(one, other, module);
        Check.is(due, () -> x.balance(0, 1));
        boolean isBalanced = due instanceof Long;
        long shift = isBalanced ? (Long) due : 0;
        Check.is(isBalanced ? shift : 3, () -> x.setShift(0, 0));
        Check.is(isBalanced ? -shift : 4, () -> x.setShift(1, 0));
    }

    private static void balanceRefusals() {
        Hobhouse x = new Hobhouse();
        x.gear(12, 2000, 0, 20000);
        x.gear(30, 2000, 0, 18000);
        x.gear(30, 2500, 0, 18000);
        x.gear(7, 2000, 0, 18000);
        x.hob(2000, 1, 60000, 3);
        Check.is(Check.NO_INDEX, () -> x.balance(0, 4));
        Check.is(Check.NO_INDEX, () -> x.balance(4, 0));
        Check.is(Check.NOT_ALLOWED, () -> x.balance(0, 0));
        Check.is(Check.NOT_ALLOWED, () -> x.balance(0, 2));
        Check.is(Check.NO_ELEMENT, () -> x.balance(0, 3));
        Check.is(30, () -> x.balance(0, 1));
        Check.is(30, () -> x.setShift(0, 30));
        Check.is(-30, () -> x.setShift(1, -30));
        x.cut(3, 0, 0);
        Check.is(Check.NOT_ALLOWED, () -> x.balance(0, 3));
        Check.is(Check.NOT_ALLOWED, () -> x.balance(3, 0));
    }

    private static void sections() {
        Hobhouse x = new Hobhouse();
        x.gear(20, 1000, 5, 5000);
        x.gear(25, 1000, -5, 5000);
        x.gear(25, 1001, -5, 5000);
        x.gear(20, 1000, 0, 5335);
        x.gear(20, 1000, 0, 5336);
        // The cone is root(20000 20000 + 25000 25000) / 2 = 32015 / 2 = 16007, a third of it is 5335.
        Check.is(1000, () -> x.section(0, 1, 0, 1));
        Check.is(1000, () -> x.section(0, 1, 0, 50));
        Check.is(843, () -> x.section(0, 1, 1, 2));
        Check.is(1000 * (16007 - 4900) / 16007, () -> x.section(0, 1, 49, 50));
        Check.is(1000 * (16007 - 1666) / 16007, () -> x.section(0, 1, 1, 3));
        Check.is(1000 * (16007 - 2667) / 16007, () -> x.section(3, 1, 1, 2));
        Check.is(Check.NOT_ALLOWED, () -> x.section(4, 1, 1, 2));
        Check.is(Check.NOT_ALLOWED, () -> x.section(0, 2, 1, 2));
        Check.is(Check.NOT_ALLOWED, () -> x.section(0, 0, 1, 2));
        x.gear(20, 1000, 0, 4714);
        Check.is(1000 * (14142 - 2357) / 14142, () -> x.section(5, 5, 1, 2));
        Check.is(Check.BAD_ARGUMENT, () -> x.section(0, 1, 2, 2));
        Check.is(Check.BAD_ARGUMENT, () -> x.section(0, 1, -1, 2));
        Check.is(Check.BAD_ARGUMENT, () -> x.section(0, 1, 0, 0));
        Check.is(Check.BAD_ARGUMENT, () -> x.section(0, 1, 0, 51));
        Check.is(Check.BAD_ARGUMENT, () -> x.section(0, 2, 0, 51));
        Check.is(Check.BAD_ARGUMENT, () -> x.section(0, 1, 0, -1));
        Check.is(Check.NO_INDEX, () -> x.section(0, 6, 0, 0));
        Check.is(Check.NO_INDEX, () -> x.section(6, 0, 0, 1));
    }
}
