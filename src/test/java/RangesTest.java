/**
 * The ranges of all arguments: the last number that goes and the first that does not, at both ends; a refused call
 * changes nothing. And the numbers of gears, hobs, machines and places, of which none is below 0 or as many as there are.
 */
final class RangesTest {
    private static final int ANY = 0;
    private static final Scenario NEW = new Scenario();
    /** Two gears that pair, a third one with a hand, a hob for all of them, a machine and a box of four. */
    private static final Scenario SMALL = new Scenario()
            .then(x -> x.gear(20, 2000, 0, 20000)).then(x -> x.gear(30, 2000, 0, 18000))
            .then(x -> x.gear(24, 2000, 100, 20000)).then(x -> x.hob(2000, 1, 60000, 3))
            .then(x -> x.hob(2000, 1, 70000, 2)).then(x -> x.machine('h', 5)).then(x -> x.machine('f', 9))
            .then(x -> x.wheel(20)).then(x -> x.wheel(24)).then(x -> x.wheel(25)).then(x -> x.wheel(60))
            .then(x -> x.chart(0, 3, 9));
    private static final Scenario CUT = SMALL.copy().then(x -> x.cut(0, 0, 500)).then(x -> x.cut(1, 0, 500));

    public static void main(String[] args) {
        gears();
        trains();
        settings();
        doubleGears();
        heat();
        charts();
        strength();
        setsAndShop();
        oldGears();
        numbersOfGears();
        numbersOfPairs();
        numbersOfOthers();
        Check.end();
    }

    private static void gears() {
        NEW.takes("gear", 0, 6, 200, ANY, 500, 0, 1000);
        NEW.takes("gear", 1, 500, 10000, 6, ANY, 0, 1000);
        NEW.takes("gear", 2, -500, 500, 6, 500, ANY, 1000);
        NEW.takes("gear", 3, 1000, 99999, 6, 500, 0, ANY);
        SMALL.takes("setShift", 1, -100, 100, 0, ANY);
        NEW.takes("fewest", 0, -100, 100, ANY);
        SMALL.takes("section", 2, 0, 6, 0, 1, ANY, 7);
        SMALL.takes("section", 2, 0, 0, 0, 1, ANY, 1);
        SMALL.takes("section", 2, 0, 49, 0, 1, ANY, 50);
        SMALL.takes("section", 3, 1, 50, 0, 1, 0, ANY);
        SMALL.takes("section", 3, 8, 50, 0, 1, 7, ANY);
    }

    private static void trains() {
        for (String name : new String[] {"bestPair", "bestMate"}) {
            NEW.takes(name, 0, 1, 9999, ANY, 1, 6, 200);
            NEW.takes(name, 1, 1, 9999, 1, ANY, 6, 200);
            NEW.takes(name, 2, 6, 200, 1, 1, ANY, 200);
            NEW.takes(name, 2, 6, 50, 1, 1, ANY, 50);
            NEW.takes(name, 3, 6, 200, 1, 1, 6, ANY);
            NEW.takes(name, 3, 50, 200, 1, 1, 50, ANY);
            NEW.takes(name, 3, 200, 200, 1, 1, 200, ANY);
        }
        NEW.takes("planets", 0, 6, 200, ANY, 600, 3);
        NEW.takes("planets", 0, 6, 99, ANY, 100, 3);
        NEW.takes("planets", 1, 21, 600, 20, ANY, 3);
        NEW.takes("planets", 1, 201, 600, 200, ANY, 3);
        NEW.takes("planets", 2, 3, 6, 20, 60, ANY);
        NEW.takes("rings", 0, 6, 200, ANY, 3, 200, 9999);
        NEW.takes("rings", 1, 3, 6, 20, ANY, 200, 9999);
        NEW.takes("rings", 2, 200, 9999, 20, 3, ANY, 9999);
        NEW.takes("rings", 3, 200, 9999, 20, 3, 200, ANY);
    }

    private static void settings() {
        NEW.takes("wheel", 0, 15, 127, ANY);
        SMALL.takes("change", 0, 1, 9999, ANY, 1, 0);
        SMALL.takes("change", 1, 1, 9999, 1, ANY, 0);
        SMALL.takes("change", 2, 0, 3, 1, 1, ANY);
        SMALL.takes("meets", 0, 1, 9999, ANY, 1, 0);
        SMALL.takes("meets", 1, 1, 9999, 1, ANY, 0);
        SMALL.takes("meets", 2, 0, 999999, 1, 1, ANY);
        NEW.takes("setMachine", 0, 1, 99, ANY, 60);
        NEW.takes("setMachine", 1, 2, 200, 24, ANY);
        NEW.takes("hob", 0, 500, 10000, ANY, 1, 60000, 3);
        NEW.takes("hob", 1, 1, 4, 2000, ANY, 60000, 3);
        NEW.takes("hob", 2, 20000, 200000, 2000, 1, ANY, 3);
        NEW.takes("hob", 3, 1, 20, 2000, 1, 60000, ANY);
        SMALL.takes("indexes", 2, 0, 999999, 0, 0, ANY);
        SMALL.takes("differs", 2, 0, 999999, 2, 0, ANY);
        SMALL.takes("shoulder", 1, -1, 99999, 0, ANY);
        SMALL.takes("cut", 2, 0, 500, 0, 0, ANY);
    }

    private static void doubleGears() {
        NEW.takes("inStep", 0, 6, 200, ANY, 20, 1, 2);
        NEW.takes("inStep", 1, 6, 200, 20, ANY, 1, 2);
        NEW.takes("inStep", 2, 0, Integer.MAX_VALUE, 20, 30, ANY, 2);
        NEW.takes("inStep", 3, 1, 9999, 20, 30, 1, ANY);
        NEW.takes("clock", 0, 6, 200, ANY, 20, 5);
        NEW.takes("clock", 0, 51, 200, ANY, 20, 50);
        NEW.takes("clock", 1, 6, 200, 20, ANY, 5);
        NEW.takes("clock", 2, 0, 5, 6, 20, ANY);
        NEW.takes("clock", 2, 0, 199, 200, 20, ANY);
    }

    private static void heat() {
        CUT.takes("harden", 1, 1, 99, 0, ANY, true);
        CUT.takes("grind", 1, 1, 99, 0, ANY, 50);
        CUT.takes("grind", 2, 1, 999, 0, 5, ANY);
        // With 1 left a greater depth goes too.
        SMALL.copy().then(x -> x.cut(0, 0, 1)).takes("grind", 1, 1, 99, 0, ANY, 50);
    }

    private static void charts() {
        SMALL.takes("chart", 1, 0, 19, 0, ANY, 5);
        SMALL.takes("chart", 1, 0, 29, 1, ANY, 5);
        SMALL.takes("chart", 2, -500, 500, 0, 5, ANY);
        SMALL.takes("part", 1, 1, 20, 0, ANY);
        SMALL.takes("part", 1, 1, 30, 1, ANY);
        SMALL.takes("peak", 2, 0, 29, 0, 1, ANY);
        SMALL.takes("peak", 2, 0, 19, 1, 0, ANY);
        SMALL.takes("note", 2, 1, 200, 0, 1, ANY);
    }

    private static void strength() {
        SMALL.takes("life", 1, 1, 999999, 0, ANY);
        CUT.takes("run", 2, 1, 99999, 0, 1, ANY, 1);
        CUT.takes("run", 3, 1, 999999, 0, 1, 1, ANY);
    }

    private static void setsAndShop() {
        CUT.takes("match", 2, 1, 4, 20, 30, ANY);
        SMALL.takes("toolsAt", 1, 0, 9999, 0, ANY);
        for (char kind : "hfgc".toCharArray()) {
            NEW.takes("machine", 1, 1, 99, kind, ANY);
            Check.is(0, () -> NEW.shop().machine(kind, 1));
            Check.is(1, () -> SMALL.shop().route(0, kind));
        }
        for (int sign = 0; sign < 256; sign++) {
            char kind = (char) sign;
            if ("hfgc".indexOf(kind) < 0) {
                Check.is(Check.BAD_ARGUMENT, () -> NEW.shop().machine(kind, 1));
                Check.is(Check.BAD_ARGUMENT, () -> SMALL.shop().route(0, kind));
            }
        }
    }

    private static void oldGears() {
        for (String name : new String[] {"oldModule", "oldShift"}) {
            NEW.takes(name, 0, 6, 200, ANY, 44000, 300);
            NEW.takes(name, 1, 1000, 9999999, 20, ANY, 300);
            NEW.takes(name, 2, 0, 9999, 20, 44000, ANY);
        }
    }

    private static void numbersOfGears() {
        for (String name : new String[] {"diameter", "tip", "isUndercut", "isSharp", "caseOf", "isClean", "stateOf",
            "total", "grade", "cause", "bears", "damage", "mate", "separate", "doneAt"}) {
            SMALL.counts(name, 0, 3, ANY);
            NEW.refuses(Check.NO_INDEX, x -> Scenario.call(x, name, 0));
        }
        SMALL.counts("setShift", 0, 3, ANY, 5);
        SMALL.counts("indexes", 0, 3, ANY, 0, 5);
        SMALL.counts("differs", 0, 3, ANY, 0, 5);
        SMALL.counts("shoulder", 0, 3, ANY, 5);
        SMALL.counts("cut", 0, 3, ANY, 0, 5);
        SMALL.counts("harden", 0, 3, ANY, 5, true);
        SMALL.counts("grind", 0, 3, ANY, 5, 5);
        SMALL.counts("chart", 0, 3, ANY, 5, 5);
        SMALL.counts("part", 0, 3, ANY, 1);
        SMALL.counts("life", 0, 3, ANY, 5);
        SMALL.counts("route", 0, 3, ANY, 'h');
    }

    private static void numbersOfPairs() {
        for (String name : new String[] {"doPair", "contact", "overlap", "runsWell", "slide", "balance", "quietest",
            "hunts"}) {
            SMALL.counts(name, 0, 3, ANY, 1);
            SMALL.counts(name, 1, 3, 0, ANY);
        }
        SMALL.counts("section", 0, 3, ANY, 1, 0, 5);
        SMALL.counts("section", 1, 3, 0, ANY, 0, 5);
        for (String name : new String[] {"peak", "note"}) {
            SMALL.counts(name, 0, 3, ANY, 1, 5);
            SMALL.counts(name, 1, 3, 0, ANY, 5);
        }
        CUT.counts("run", 0, 3, ANY, 1, 5, 5);
        CUT.counts("run", 1, 3, 0, ANY, 5, 5);
    }

    private static void numbersOfOthers() {
        for (String name : new String[] {"approach", "regrind"}) {
            SMALL.counts(name, 0, 2, ANY);
            NEW.refuses(Check.NO_INDEX, x -> Scenario.call(x, name, 0));
        }
        SMALL.counts("indexes", 1, 2, 0, ANY, 5);
        SMALL.counts("differs", 1, 2, 2, ANY, 5);
        SMALL.counts("cut", 1, 2, 0, ANY, 5);
        SMALL.counts("wear", 0, 2, ANY, 0);
        SMALL.counts("wear", 1, 3, 0, ANY);
        SMALL.counts("wear", 1, 2, 1, ANY);
        SMALL.counts("toolsAt", 0, 2, ANY, 5);
    }
}
