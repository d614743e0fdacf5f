/** Each sentence of the document's terms that names a boundary case; the sentence stands above its test. */
final class TermsEdgesTest {
    public static void main(String[] args) {
        numberedFromZero();
        divisionsAreRoundedDown();
        setsAreMasks();
        noneIsNoError();
        settings();
        twentyStreets();
        fourBranches();
        widths();
        flagSmokePeople();
        windAtTheTop();
        narrower();
        neverMoreThanTheStreetBefore();
        flagShows();
        smokeLeans();
        gusts();
        hatsAreLost();
        hatsAreBought();
        latestRecords();
        mostLost();
        Due.end("TermsEdgesTest");
    }

    // "Everything is numbered from 0."
    private static void numberedFromZero() {
        HatWinds x = new HatWinds();
        Due.is("the first street", x.of(0, 1), 1);
        Due.is("the second street", x.street(0, 2), 1);
        Due.is("the first setting", x.set(0, 9), 8);
        x.wind(7);
        x.pass(1);
        Due.is("the latest record", x.record(0, 0), 7);
        x.put('5');
        Due.is("the first sign", x.sign(0), '5');
        Due.is("the first slot", x.save(0), 2);
    }

    // "Divisions are rounded down."
    private static void divisionsAreRoundedDown() {
        HatWinds x = Town.of("1c!*99(1,1,1)");
        x.set(HatWinds.GUST, 99);
        x.wind(200);
        Due.is("a third of 200", x.now(1, 0), 66);
        x.wind(1);
        Due.is("a third of 1", x.now(1, 0), 0);
        Due.is("99 hundredths of 1", x.now(0, 1), 1);
        x.wind(71);
        Due.is("71 of 72 that three steps take", x.now(0, 2), 2);
        Due.is("71 of 72 that six steps take", x.now(0, 3), 5);
        x.set(HatWinds.GUST, 0);
        // 51 above HOLD.
        Due.is("51 / 4 and 1", x.now(0, 4), 13);
    }

    // "Sets of streets are bit masks."
    private static void setsAreMasks() {
        HatWinds x = Edge.full();
        Due.is("off the street 0", x.of(0, 5), 1 << 1 | 1 << 6 | 1 << 11 | 1 << 16);
        Due.is("off the street 16", x.of(16, 5), 1 << 17 | 1 << 18 | 1 << 19);
        Due.is("off the street 19", x.of(19, 5), 0);
        Due.is("all twenty shelter", x.count(6), (1 << 20) - 1);
        x.change(0, 2, 1);
        x.change(19, 2, 1);
        x.set(HatWinds.HOLD, 1);
        x.set(HatWinds.GUST, 100);
        x.wind(200);
        Due.is("all but the first and the last", x.count(6), (1 << 19) - 2);
    }

    // "NONE (-6) is not an error; it is returned only if no error applies."
    private static void noneIsNoError() {
        HatWinds x = new HatWinds();
        Due.is("NONE for the street 0", x.of(0, 0), HatWinds.NONE);
        Due.is("no street before that", x.of(1, 0), HatWinds.NO_SUCH);
        Due.is("NONE without a flag", x.now(0, 2), HatWinds.NONE);
        Due.is("no street before no flag", x.now(1, 2), HatWinds.NO_SUCH);
        Due.is("NONE without smoke", x.now(0, 3), HatWinds.NONE);
        Due.is("no street before no smoke", x.now(1, 3), HatWinds.NO_SUCH);
        Due.is("no record before no hat", x.record(0, 2), HatWinds.NO_SUCH);
        Due.is("no street before no wind", x.windOfFlag(1, 12), HatWinds.NO_SUCH);
        Due.is("no flag before no wind", x.windOfFlag(0, 12), HatWinds.NOT_POSSIBLE);
        Due.is("no wind", x.windFor(999), HatWinds.NONE);
        Due.is("out of range before no wind", x.windFor(1000), HatWinds.BAD_VALUE);
        x.pass(1);
        Due.is("NONE without a hat", x.record(0, 2), HatWinds.NONE);
    }

    // "STEP (1 to 20; 8) .. HOLD (1 to 60; 20) .. GUST (0 to 100; 30) .. LEAN (1 to 30; 12)"
    private static void settings() {
        int[] least = {1, 1, 0, 1}, most = {20, 60, 100, 30}, first = {8, 20, 30, 12};
        int[] numbers = {HatWinds.STEP, HatWinds.HOLD, HatWinds.GUST, HatWinds.LEAN};
        for (int at = 0; at < numbers.length; at++) {
            int setting = numbers[at];
            HatWinds x = new HatWinds();
            Due.is("first of " + setting, x.count(8 + setting), first[at]);
            Due.is("least of " + setting, x.set(setting, least[at]), first[at]);
            Due.is("least of " + setting + " is there", x.count(8 + setting), least[at]);
            Due.is("most of " + setting, x.set(setting, most[at]), least[at]);
            Due.is("most of " + setting + " is there", x.count(8 + setting), most[at]);
            Edge.range("set " + setting, Edge::lively, (y, value) -> y.set(setting, value), least[at], most[at], HatWinds.BAD_VALUE);
        }
    }

    // "There are up to 20 streets, numbered in the order in which they came; the street 0 is the top one."
    private static void twentyStreets() {
        HatWinds x = Edge.chain(20);
        Due.is("20 streets", x.count(0), 20);
        Due.is("the last is there", x.of(19, 0), 18);
        Due.is("no 21st is there", x.of(20, 0), HatWinds.NO_SUCH);
        Edge.unchanged("a 21st street", () -> Edge.chain(20), y -> y.street(0, 1), HatWinds.TOO_MANY);
        Edge.unchanged("a 21st street off the last", () -> Edge.chain(20), y -> y.street(19, 9), HatWinds.TOO_MANY);
        Due.is("the 20th", Edge.chain(19).street(0, 1), 19);
        Due.is("the top one branches off none", x.of(0, 0), HatWinds.NONE);
        Due.is("the top one is no street off the top", x.of(0, 7), 0);
    }

    // "a street has at most 4 that branch off it"
    private static void fourBranches() {
        for (int from = 0; from < 2; from++) {
            int parent = from;
            HatWinds x = Edge.chain(2);
            int first = from == 0 ? 2 : 1;
            for (int branches = first; branches <= 4; branches++) {
                Due.is("branch " + branches + " off " + from, x.street(from, 5), branches - first + 2);
            }
            Due.is("a fifth off " + from, x.street(from, 5), HatWinds.TOO_MANY);
            Due.is("four off " + from, Integer.bitCount(x.of(from, 5)), 4);
            Due.is("one off another", x.street(2, 5), x.count(0) - 1);
        }
        Edge.unchanged("a fifth off one", () -> Town.of("1(1(2,3,4,5),6)"), x -> x.street(1, 1), HatWinds.TOO_MANY);
        Edge.unchanged("a fifth off the top one", () -> Town.of("1(2,3,4,5)"), x -> x.street(0, 1), HatWinds.TOO_MANY);
    }

    // "Each other one branches off a street with a lower number, and has a width (1 to 9)"
    private static void widths() {
        Edge.range("street off 0", Edge::lively, (x, width) -> x.street(0, width), 1, 9, HatWinds.BAD_VALUE);
        Edge.range("change of the width", Edge::lively, (x, width) -> x.change(1, 3, width), 1, 9, HatWinds.BAD_VALUE);
        for (int width = 1; width <= 9; width++) {
            HatWinds x = new HatWinds();
            x.street(0, width);
            Due.is("a width that comes", x.of(1, 1), width);
            HatWinds y = Town.of("1(" + width + ")");
            Due.is("a width that is told", y.of(1, 1), width);
        }
        HatWinds z = Edge.full();
        for (int street = 1; street < 20; street++) {
            Due.is("a lower number than " + street, z.of(street, 0) >= 0 && z.of(street, 0) < street ? 1 : 0, 1);
        }
    }

    // "A street has a flag or none, of a cloth (1 to 5; 0: none), smoke or none, and people (0 to 99)"
    private static void flagSmokePeople() {
        int[] most = {5, 1, 99};
        for (int what = 0; what < most.length; what++) {
            int changed = what;
            for (int value = 0; value <= most[what]; value++) {
                HatWinds x = new HatWinds();
                x.change(0, what, value);
                Due.is("change(0, " + what + ", " + value + ") is told", x.of(0, 2 + what), value);
            }
            Edge.range("change of " + what, Edge::lively, (x, value) -> x.change(2, changed, value), 0, most[what], HatWinds.BAD_VALUE);
        }
    }

    // "The wind at the top has a force, 0 to 200 (0 at first): that of the street 0."
    private static void windAtTheTop() {
        HatWinds x = new HatWinds();
        Due.is("the first force", x.count(1), 0);
        Due.is("in the street 0", x.now(0, 0), 0);
        Due.is("wind(200)", x.wind(200), 0);
        Due.is("200 in the street 0", x.now(0, 0), 200);
        Due.is("wind(0)", x.wind(0), 200);
        Edge.range("wind", Edge::lively, HatWinds::wind, 0, 200, HatWinds.BAD_VALUE);
    }

    // "a branch has force * its width / the widths of all branches of that street, together, and 5 more for each
    // branch that is narrower than it"
    private static void narrower() {
        forcesAre("1(2,2)", 100, 100, 50, 50);
        forcesAre("1(3,2)", 100, 100, 65, 40);
        forcesAre("1(4,3,2,1)", 100, 100, 55, 40, 25, 10);
        forcesAre("1(1,2,3,4)", 100, 100, 10, 25, 40, 55);
        forcesAre("1(1,1,1,9)", 120, 120, 10, 10, 10, 105);
        forcesAre("1(7)", 100, 100, 100);
        // The widths of branches of other streets, and of the street itself, do not matter.
        forcesAre("9(2(1,9),2(3,3))", 100, 100, 50, 5, 50, 50, 25, 25);
    }

    // "but never more than the force of the street from which it branches"
    private static void neverMoreThanTheStreetBefore() {
        forcesAre("1(1,9)", 0, 0, 0, 0);
        forcesAre("1(1,9)", 1, 1, 0, 1);
        forcesAre("1(1,9)", 39, 39, 3, 39);
        forcesAre("1(1,9)", 40, 40, 4, 40);
        forcesAre("1(1,9)", 41, 41, 4, 41);
        forcesAre("1(1,9)", 51, 51, 5, 50);
        // 9 of 10, and 5: more than in the street 1, and less than at the top.
        forcesAre("1(1(1,9),1)", 20, 20, 10, 1, 10, 10);
        forcesAre("1(1(1,1,1,2))", 10, 10, 10, 2, 2, 2, 10);
    }

    private static void forcesAre(String text, int wind, int... want) {
        HatWinds x = Town.of(text);
        x.wind(wind);
        for (int street = 0; street < want.length; street++) {
            Due.is("force of " + street + " of " + text + " by " + wind, x.now(street, 0), want[street]);
        }
    }

    // "A flag of the cloth c shows the force of its street / (STEP * c), but 12 at most."
    private static void flagShows() {
        for (int cloth = 1; cloth <= 5; cloth++) {
            HatWinds x = new HatWinds();
            x.change(0, 0, cloth);
            x.wind(8 * cloth - 1);
            Due.is("just no step of cloth " + cloth, x.now(0, 2), 0);
            x.wind(8 * cloth);
            Due.is("just a step of cloth " + cloth, x.now(0, 2), 1);
            x.set(HatWinds.STEP, 3);
            x.wind(36 * cloth - 1);
            Due.is("11 steps of cloth " + cloth, x.now(0, 2), 11);
            x.wind(36 * cloth);
            Due.is("12 steps of cloth " + cloth, x.now(0, 2), 12);
            x.wind(Math.min(200, 39 * cloth));
            Due.is("12 steps at most of cloth " + cloth, x.now(0, 2), 12);
        }
        HatWinds y = Town.of("1e");
        y.set(HatWinds.STEP, 20);
        y.wind(99);
        Due.is("99 of 100", y.now(0, 2), 0);
        y.wind(199);
        Due.is("199 of 200", y.now(0, 2), 1);
        y.wind(200);
        Due.is("200 of 200", y.now(0, 2), 2);
        HatWinds z = Town.of("1a(1a,1)");
        z.wind(16);
        Due.is("by the force of its own street", z.now(1, 2), 1);
    }

    // "Smoke leans force / LEAN steps, but 9 at most."
    private static void smokeLeans() {
        int[] leans = {1, 12, 22, 30};
        for (int lean : leans) {
            HatWinds x = Town.of("1!");
            x.set(HatWinds.LEAN, lean);
            for (int steps = 1; steps * lean <= 200 && steps <= 11; steps++) {
                x.wind(steps * lean - 1);
                Due.is("just not " + steps + " by LEAN " + lean, x.now(0, 3), Math.min(9, steps - 1));
                x.wind(steps * lean);
                Due.is("just " + steps + " by LEAN " + lean, x.now(0, 3), Math.min(9, steps));
            }
            x.wind(200);
            Due.is("by 200 and LEAN " + lean, x.now(0, 3), Math.min(9, 200 / lean));
        }
    }

    // "A gust in a street has its force and force * GUST / 100 more."
    private static void gusts() {
        HatWinds x = Town.of("1(1,1)");
        int[] gusts = {0, 1, 30, 100}, top = {200, 202, 260, 400}, below = {100, 101, 130, 200};
        x.wind(200);
        for (int at = 0; at < gusts.length; at++) {
            x.set(HatWinds.GUST, gusts[at]);
            Due.is("a gust at the top by " + gusts[at], x.now(0, 1), top[at]);
            Due.is("a gust in a street by " + gusts[at], x.now(1, 1), below[at]);
        }
        x.wind(0);
        Due.is("no gust without wind", x.now(0, 1), 0);
    }

    // "With a gust above HOLD hats are lost: as many as the gust is above HOLD, divided by 4, and 1, but no more than
    // there are hats."
    private static void hatsAreLost() {
        int[] holds = {1, 20, 60};
        for (int hold : holds) {
            HatWinds x = Town.of("1*99");
            x.set(HatWinds.GUST, 0);
            x.set(HatWinds.HOLD, hold);
            int[] above = {-1, 0, 1, 3, 4, 7, 8}, lost = {0, 0, 1, 1, 2, 2, 3};
            for (int at = 0; at < above.length; at++) {
                x.wind(hold + above[at]);
                Due.is("hats " + above[at] + " above HOLD " + hold, x.now(0, 4), lost[at]);
            }
        }
        HatWinds y = Town.of("1*99");
        y.set(HatWinds.HOLD, 1);
        y.set(HatWinds.GUST, 100);
        // 393, 395, 397 and 399 above HOLD.
        int[] winds = {197, 198, 199, 200};
        for (int wind : winds) {
            y.wind(wind);
            Due.is("no more than 99 hats by " + wind, y.now(0, 4), 99);
        }
        y.change(0, 2, 98);
        Due.is("no more than 98 hats", y.now(0, 4), 98);
        y.change(0, 2, 1);
        Due.is("no more than one hat", y.now(0, 4), 1);
        y.change(0, 2, 0);
        Due.is("no hat", y.now(0, 4), 0);
    }

    // "those who lost one buy another at the end of the hour, so that there are as many hats as people again"
    private static void hatsAreBought() {
        HatWinds x = Town.of("1*1");
        x.wind(200);
        for (int hour = 1; hour <= 10; hour++) {
            Due.is("the only hat, hour " + hour, x.pass(1), 1);
            Due.is("the people stay", x.of(0, 4), 1);
        }
        Due.is("all hats so far", x.count(3), 10);
    }

    // "The record of the hour is kept, the latest 8 .. Then the hour is counted (0 at first)."
    private static void latestRecords() {
        HatWinds x = Town.of("1*99");
        x.set(HatWinds.GUST, 0);
        Due.is("no hour", x.count(2), 0);
        Due.is("no record", x.record(0, 0), HatWinds.NO_SUCH);
        for (int hour = 1; hour <= 10; hour++) {
            x.wind(20 + 4 * hour);
            x.pass(1);
            Due.is("hours", x.count(2), hour);
            int oldest = Math.min(hour, 8) - 1;
            Due.is("the latest of " + hour, x.record(0, 0), 20 + 4 * hour);
            Due.is("the oldest of " + hour, x.record(oldest, 0), 20 + 4 * (hour - oldest));
            Due.is("hats of the oldest of " + hour, x.record(oldest, 1), hour - oldest + 1);
            Due.is("none before the oldest of " + hour, x.record(oldest + 1, 0), HatWinds.NO_SUCH);
        }
        HatWinds y = Town.of("1");
        y.pass(7);
        Due.is("seven at once", y.record(6, 0), 0);
        Due.is("no eighth", y.record(7, 0), HatWinds.NO_SUCH);
        y.wind(9);
        y.pass(9);
        Due.is("eight of nine at once", y.record(7, 0), 9);
        Due.is("no ninth", y.record(8, 0), HatWinds.NO_SUCH);
    }

    // "the force at the top, hats lost in all streets, and the street where most were lost (of several the lowest)"
    private static void mostLost() {
        mostLostIs("1", HatWinds.NONE);
        mostLostIs("1*1", 0);
        mostLostIs("1(1*1)", 1);
        mostLostIs("1(1*2,1*3)", 2);
        mostLostIs("1(1*3,1*3)", 1);
        mostLostIs("1(1*2,1*3,1*3,1*1)", 2);
        mostLostIs("1*2(1*2)", 0);
        HatWinds x = Edge.full();
        x.change(19, 2, 1);
        x.set(HatWinds.HOLD, 1);
        x.wind(200);
        x.pass(1);
        Due.is("most lost in the last of twenty", x.record(0, 2), 19);
    }

    private static void mostLostIs(String text, int want) {
        HatWinds x = Town.of(text);
        x.wind(200);
        x.pass(1);
        Due.is("where most are lost of " + text, x.record(0, 2), want);
        int all = 0;
        for (int street = 0; street < x.count(0); street++) {
            all += x.now(street, 4);
        }
        Due.is("hats of all streets of " + text, x.record(0, 1), all);
        Due.is("the force at the top of " + text, x.record(0, 0), 200);
    }
}
