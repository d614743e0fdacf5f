/** Each sentence of the promises 9 to 18 that names a boundary case; the sentence stands above its test. */
final class AnswersEdgesTest {
    private static final int FAR = Integer.MAX_VALUE, LOW = Integer.MIN_VALUE;

    public static void main(String[] args) {
        ofErrors();
        ofLeastAndMost();
        nowErrors();
        nowWithoutFlagOrSmoke();
        recordErrors();
        signErrors();
        signOfAll();
        countErrors();
        countOfLeastAndMost();
        leastForce();
        ifWindErrors();
        windForErrors();
        windForAtItsEnds();
        windOfFlagErrors();
        windOfFlagAtItsEnds();
        withoutErrors();
        withoutAtItsEnds();
        windiestOfEnds();
        nothingChanges();
        Due.end("AnswersEdgesTest");
    }

    // 9: "NO_SUCH if there is no such street; BAD_VALUE if what is out of range."
    private static void ofErrors() {
        for (int what : new int[] {0, 7, -1, 8, FAR, LOW}) {
            Edge.refusedAt("of(.., " + what + ")", Edge::lively, (x, street) -> x.of(street, what), HatWinds.NO_SUCH, -1, 6, 20, FAR, LOW);
        }
        for (int street : new int[] {0, 5}) {
            Edge.range("of(" + street + ", ..)", Edge::lively, (x, what) -> x.of(street, what), 0, 7, HatWinds.BAD_VALUE);
        }
        HatWinds x = Edge.full();
        Due.is("the last of twenty", x.of(19, 1), 1);
        Due.is("none behind it", x.of(20, 1), HatWinds.NO_SUCH);
    }

    // 9: "0 the street off which it branches (NONE for 0) .. 5 streets that branch off it, as a set, 6 streets behind it,
    // one through another, how many, 7 how many streets off the top it is"
    private static void ofLeastAndMost() {
        HatWinds one = new HatWinds();
        Due.is("off none", one.of(0, 0), HatWinds.NONE);
        Due.is("no branches", one.of(0, 5), 0);
        Due.is("none behind it", one.of(0, 6), 0);
        Due.is("at the top", one.of(0, 7), 0);
        HatWinds chain = Edge.chain(20);
        for (int street = 0; street < 20; street++) {
            Due.is("off which, " + street, chain.of(street, 0), street == 0 ? HatWinds.NONE : street - 1);
            Due.is("branches, " + street, chain.of(street, 5), street == 19 ? 0 : 1 << (street + 1));
            Due.is("behind it, " + street, chain.of(street, 6), 19 - street);
            Due.is("off the top, " + street, chain.of(street, 7), street);
        }
        HatWinds full = Edge.full();
        Due.is("behind the top of twenty", full.of(0, 6), 19);
        Due.is("behind one of four", full.of(11, 6), 4);
        Due.is("behind the last of four", full.of(16, 6), 3);
        Due.is("off the top through one", full.of(19, 7), 2);
        // A street that came late is behind all those through which it is reached, and behind no other.
        HatWinds late = Town.of("1(1(1),1(1))");
        late.street(2, 1);
        late.street(5, 1);
        int[] behind = {6, 3, 2, 1, 0, 1, 0};
        for (int street = 0; street < behind.length; street++) {
            Due.is("behind " + street + " of those that came late", late.of(street, 6), behind[street]);
        }
    }

    // 10: "NO_SUCH if there is no such street; BAD_VALUE if what is out of range."
    private static void nowErrors() {
        for (int what : new int[] {0, 2, 4, -1, 5, FAR, LOW}) {
            Edge.refusedAt("now(.., " + what + ")", Edge::lively, (x, street) -> x.now(street, what), HatWinds.NO_SUCH, -1, 6, 20, FAR, LOW);
        }
        for (int street : new int[] {0, 5}) {
            Edge.range("now(" + street + ", ..)", Edge::lively, (x, what) -> x.now(street, what), 0, 4, HatWinds.BAD_VALUE);
        }
    }

    // 10: "2 the steps that its flag shows (NONE without a flag), 3 the steps that its smoke leans (NONE without smoke)"
    private static void nowWithoutFlagOrSmoke() {
        String[] texts = {"1", "1a", "1!", "1a!"};
        for (int wind : new int[] {0, 200}) {
            for (String text : texts) {
                HatWinds x = Town.of(text);
                x.wind(wind);
                int flag = text.indexOf('a') < 0 ? HatWinds.NONE : wind == 0 ? 0 : 12;
                int smoke = text.indexOf('!') < 0 ? HatWinds.NONE : wind == 0 ? 0 : 9;
                Due.is("the flag of " + text + " by " + wind, x.now(0, 2), flag);
                Due.is("the smoke of " + text + " by " + wind, x.now(0, 3), smoke);
            }
        }
    }

    // 11: "NO_SUCH if there are not so many; BAD_VALUE if what is out of range."
    private static void recordErrors() {
        for (int what : new int[] {0, 2, -1, 3, FAR, LOW}) {
            Edge.refusedAt("record(.., " + what + ") of none", HatWinds::new, (x, rank) -> x.record(rank, what), HatWinds.NO_SUCH,
                -1, 0, 1, FAR, LOW);
            Edge.refusedAt("record(.., " + what + ") of 3", () -> Edge.aged(3), (x, rank) -> x.record(rank, what), HatWinds.NO_SUCH,
                -1, 3, 4, FAR, LOW);
            Edge.refusedAt("record(.., " + what + ") of 11", Edge::lively, (x, rank) -> x.record(rank, what), HatWinds.NO_SUCH,
                -1, 8, 9, 10, 11, FAR, LOW);
        }
        for (int rank : new int[] {0, 7}) {
            Edge.range("record(" + rank + ", ..)", Edge::lively, (x, what) -> x.record(rank, what), 0, 2, HatWinds.BAD_VALUE);
        }
        HatWinds x = Edge.lively();
        Due.is("the latest", x.record(0, 0), 90);
        Due.is("the sixth", x.record(5, 0), 90);
        Due.is("the seventh", x.record(6, 0), 120);
        Due.is("the eighth", x.record(7, 0), 120);
        HatWinds y = Edge.aged(9);
        y.undo();
        Due.is("no records when the hours are undone", y.record(0, 0), HatWinds.NO_SUCH);
    }

    // 12: "Returns the code; NO_SUCH if there is no such place."
    private static void signErrors() {
        Edge.refusedAt("sign of nothing", HatWinds::new, HatWinds::sign, HatWinds.NO_SUCH, -1, 0, 1, 79, 80, FAR, LOW);
        Edge.refusedAt("sign of six", Edge::lively, HatWinds::sign, HatWinds.NO_SUCH, -1, 6, 7, 79, 80, FAR, LOW);
        HatWinds x = Edge.lively();
        Due.is("the first sign of six", x.sign(0), '4');
        Due.is("the last sign of six", x.sign(5), '7');
        HatWinds y = new HatWinds();
        Town.put(y, "a".repeat(79) + "b");
        Due.is("the last of 80", y.sign(79), 'b');
        Due.is("none behind 80", y.sign(80), HatWinds.NO_SUCH);
        y.wipe();
        Due.is("none of those that were wiped", y.sign(79), HatWinds.NO_SUCH);
    }

    // 19: "a code is not 33 to 126"; 12: "Returns the code of a character of the pad."
    private static void signOfAll() {
        HatWinds x = new HatWinds();
        for (int code = 33; code <= 126; code++) {
            if (code == 113) {
                x.wipe();
            }
            int place = code < 113 ? code - 33 : code - 113;
            Due.is("put(" + code + ")", x.put(code), place + 1);
            Due.is("sign(" + place + ")", x.sign(place), code);
        }
    }

    // 13: "BAD_VALUE if what is out of range."
    private static void countErrors() {
        Edge.range("count", Edge::lively, HatWinds::count, 0, 13, HatWinds.BAD_VALUE);
    }

    // 13: "0 streets, 1 the force at the top, .. 12 the length of the pad, 13 how many changes can be undone"
    private static void countOfLeastAndMost() {
        HatWinds x = new HatWinds();
        int[] least = {1, 0, 0, 0, 0, 0, 1, 0, 8, 20, 30, 12, 0, 0};
        for (int what = 0; what < least.length; what++) {
            Due.is("least, count(" + what + ")", x.count(what), least[what]);
        }
        HatWinds y = Edge.full();
        int[] most = {20, 200, 120, 120 * 20 * 61, 20 * 99, 20 * 61, 0, 0, 20, 60, 100, 30, 80, 6};
        for (int setting = 0; setting < 4; setting++) {
            y.set(setting, most[8 + setting]);
        }
        // Each is as wide as the others, and together they are four: with GUST 100, HOLD 60 only the first ones feel it.
        for (int street = 0; street < 20; street++) {
            y.change(street, 2, 99);
        }
        y.wind(200);
        // Gusts 400, 100 and 24 or 32: hats 86, 11 and none.
        int hour = 86 + 4 * 11;
        for (int day = 0; day < 5; day++) {
            Due.is("a day", y.pass(24), 24 * hour);
        }
        Town.put(y, "1".repeat(80));
        most[3] = 120 * hour;
        most[5] = hour;
        most[6] = (1 << 20) - 1 - (1 | 1 << 1 | 1 << 6 | 1 << 11 | 1 << 16);
        most[7] = 2;
        for (int what = 0; what < most.length; what++) {
            Due.is("most, count(" + what + ")", y.count(what), most[what]);
        }
    }

    // 13: "7 the street with the least force now, of several the lowest"
    private static void leastForce() {
        String[] texts = {"1", "1(1)", "1(1,1)", "1(2,1)", "1(1,2)", "1(2,1,1)", "1(1(1,1),1)", "1(1,1(1,1))", "1(1(1(1)))"};
        int[] windy = {0, 0, 1, 2, 1, 2, 2, 3, 0};
        for (int at = 0; at < texts.length; at++) {
            HatWinds x = Town.of(texts[at]);
            Due.is("without wind the lowest of " + texts[at], x.count(7), 0);
            x.wind(200);
            Due.is("the least of " + texts[at], x.count(7), windy[at]);
        }
    }

    // 14: "force: 0 to 200 .. BAD_VALUE if force is out of range."
    private static void ifWindErrors() {
        Edge.range("ifWind", Edge::lively, HatWinds::ifWind, 0, 200, HatWinds.BAD_VALUE);
        HatWinds x = Town.of("1*99");
        Due.is("ifWind(0)", x.ifWind(0), 0);
        Due.is("ifWind(16), gust 20", x.ifWind(16), 0);
        Due.is("ifWind(17), gust 22", x.ifWind(17), 1);
        Due.is("ifWind(200), gust 260", x.ifWind(200), 61);
        Due.is("the wind is as it was", x.count(1), 0);
        Due.is("no hat is lost", x.count(3), 0);
    }

    // 15: "hats: 1 to 999 .. BAD_VALUE if hats is out of range"
    private static void windForErrors() {
        Edge.range("windFor", Edge::lively, HatWinds::windFor, 1, 999, HatWinds.BAD_VALUE);
        Edge.range("windFor without people", HatWinds::new, HatWinds::windFor, 1, 999, HatWinds.BAD_VALUE);
    }

    // 15: "Finds the least wind at the top by which an hour loses so many hats, or more. .. NONE if no wind, 0 to 200, does."
    private static void windForAtItsEnds() {
        HatWinds x = Town.of("1*99");
        Due.is("the last that 200 does", x.windFor(61), 200);
        Due.is("one more", x.windFor(62), HatWinds.NONE);
        Due.is("the first", x.windFor(1), 17);
        x.set(HatWinds.GUST, 0);
        x.set(HatWinds.HOLD, 1);
        Due.is("by the least HOLD", x.windFor(1), 2);
        x.set(HatWinds.GUST, 100);
        Due.is("by the most GUST", x.windFor(1), 1);
        Due.is("all hats", x.windFor(99), 197);
        Due.is("more than all hats", x.windFor(100), HatWinds.NONE);
        // Two lose one each by the same wind: there is none by which just one is lost.
        HatWinds y = Town.of("1*9(1*9)");
        Due.is("one or more", y.windFor(1), 17);
        Due.is("two", y.windFor(2), 17);
        Due.is("three", y.windFor(3), y.windFor(4));
        HatWinds z = Edge.chain(20);
        for (int street = 0; street < 20; street++) {
            z.change(street, 2, 99);
        }
        z.set(HatWinds.HOLD, 1);
        z.set(HatWinds.GUST, 100);
        // 50 of each of twenty: 197 above HOLD, a gust of 198.
        Due.is("999 hats", z.windFor(999), 99);
        Due.is("by one less", z.ifWind(98), 980);
    }

    // 16: "NO_SUCH if there is no such street; BAD_VALUE if steps is out of range; NOT_POSSIBLE if it has no flag"
    private static void windOfFlagErrors() {
        for (int steps : new int[] {1, 12, 0, 13, -1, FAR, LOW}) {
            Edge.refusedAt("windOfFlag(.., " + steps + ")", Edge::lively, (x, street) -> x.windOfFlag(street, steps), HatWinds.NO_SUCH,
                -1, 6, 20, FAR, LOW);
        }
        for (int street : new int[] {0, 1, 2, 5}) {
            Edge.refusedAt("windOfFlag(" + street + ", ..)", Edge::lively, (x, steps) -> x.windOfFlag(street, steps), HatWinds.BAD_VALUE,
                -1, 0, 13, FAR, LOW);
        }
        for (int street : new int[] {2, 5}) {
            Edge.refusedAt("windOfFlag(" + street + ", ..)", Edge::lively, (x, steps) -> x.windOfFlag(street, steps), HatWinds.NOT_POSSIBLE,
                1, 12);
        }
        Edge.range("windOfFlag(0, ..)", Edge::lively, (x, steps) -> x.windOfFlag(0, steps), 1, 12, HatWinds.BAD_VALUE);
    }

    // 16: "Finds the least wind at the top by which a flag shows so many steps, or more. .. NONE if no wind, 0 to 200, does."
    private static void windOfFlagAtItsEnds() {
        HatWinds x = Town.of("1a(1b,1)");
        x.set(HatWinds.STEP, 1);
        Due.is("the least wind of all", x.windOfFlag(0, 1), 1);
        Due.is("the most steps", x.windOfFlag(0, 12), 12);
        x.set(HatWinds.STEP, 20);
        Due.is("the last that 200 does", x.windOfFlag(0, 10), 200);
        Due.is("one more", x.windOfFlag(0, 11), HatWinds.NONE);
        Due.is("the last that 160 does", x.windOfFlag(1, 2), 160);
        Due.is("more than 200", x.windOfFlag(1, 3), HatWinds.NONE);
        Due.is("no flag", x.windOfFlag(2, 12), HatWinds.NOT_POSSIBLE);
        // By 40 the wide one has 36 and 5, but no more than 40; by 16 it has all 16.
        HatWinds y = Town.of("1(1,9b)");
        Due.is("all of the wind", y.windOfFlag(2, 1), 16);
        Due.is("less than all of it", y.windOfFlag(2, 4), 66);
        y.wind(65);
        Due.is("just not by one less", y.now(2, 2), 3);
        y.wind(66);
        Due.is("just by that", y.now(2, 2), 4);
    }

    // 17: "NO_SUCH if there is no such street; NOT_POSSIBLE if they are the same, or do not branch off the same one."
    private static void withoutErrors() {
        for (int each : new int[] {0, 1, 5, -1, 6, FAR}) {
            Edge.refusedAt("without(.., " + each + ")", Edge::lively, (x, street) -> x.without(street, each), HatWinds.NO_SUCH, -1, 6, 20, FAR, LOW);
            Edge.refusedAt("without(" + each + ", ..)", Edge::lively, (x, other) -> x.without(each, other), HatWinds.NO_SUCH, -1, 6, 20, FAR, LOW);
        }
        for (int street = 0; street < 6; street++) {
            int each = street;
            Edge.unchanged("the same, " + each, Edge::lively, x -> x.without(each, each), HatWinds.NOT_POSSIBLE);
        }
        // 1 and 4 branch off 0, 2 and 3 off 1, and 5 off 2.
        int[] one = {0, 0, 1, 1, 4, 2, 3, 2}, other = {1, 4, 2, 5, 3, 4, 5, 5};
        for (int at = 0; at < one.length; at++) {
            int a = one[at], b = other[at];
            Edge.unchanged("without(" + a + ", " + b + ")", Edge::lively, x -> x.without(a, b), HatWinds.NOT_POSSIBLE);
            Edge.unchanged("without(" + b + ", " + a + ")", Edge::lively, x -> x.without(b, a), HatWinds.NOT_POSSIBLE);
        }
        HatWinds y = Edge.full();
        Due.is("the last two of twenty", y.without(19, 18), 500);
        Due.is("of other streets", y.without(19, 15), HatWinds.NOT_POSSIBLE);
    }

    // 17: "Returns by how much, and 500"
    private static void withoutAtItsEnds() {
        HatWinds x = Town.of("1(1,9)");
        Due.is("nothing without wind", x.without(1, 2), 500);
        x.wind(40);
        Due.is("40 in place of 4", x.without(1, 2), 536);
        Due.is("it had all of it", x.without(2, 1), 500);
        x.wind(200);
        Due.is("200 in place of 20", x.without(1, 2), 680);
        Due.is("200 in place of 185", x.without(2, 1), 515);
        // Nine tenths and twice 5 are more than comes in; without one of them they are less.
        HatWinds y = Town.of("1(1,1,9,8)");
        y.wind(10);
        Due.is("all of it already", y.without(3, 1), 500);
        // 9 of 19 are 47 of 100, and three times 5; 8 of 18 are 44, and twice.
        y.wind(100);
        Due.is("a wide one without a narrow one", y.without(3, 1), 500 + 50 + 10 - 47 - 15);
        Due.is("a narrow one without a wide one", y.without(1, 3), 500 + 10 - 5);
        HatWinds z = Town.of("1(9,9,1,9)");
        z.wind(20);
        // 6 and 5 with it; 6 without it: less than nothing more.
        Due.is("less without the narrow one", z.without(1, 3), 500 + 6 - 11);
        // A street that is not there takes those behind it away, and they don't matter.
        HatWinds w = Town.of("1(1(9,9),1)");
        w.wind(200);
        Due.is("without one that others branch off", w.without(4, 1), 600);
    }

    // 18: "the street with the most force now of those that branch off none further, of several the lowest one"
    private static void windiestOfEnds() {
        String[] texts = {"1", "1(1)", "1(1,1)", "1(1,2)", "1(2,1)", "1(1,1,1,1)", "1(1(1),1)", "1(1(1,1),1)", "1(1(1(1)))", "1(1,1(1))"};
        int[] calm = {0, 1, 1, 1, 1, 1, 2, 2, 3, 1}, windy = {0, 1, 1, 2, 1, 1, 2, 4, 3, 1};
        for (int at = 0; at < texts.length; at++) {
            HatWinds x = Town.of(texts[at]);
            Due.is("windiest without wind of " + texts[at], x.windiest(), calm[at]);
            x.wind(200);
            Due.is("windiest of " + texts[at], x.windiest(), windy[at]);
        }
        HatWinds y = Edge.full();
        y.change(16, 3, 9);
        y.change(19, 3, 9);
        y.wind(200);
        Due.is("the last of twenty", y.windiest(), 19);
        Due.is("the last of a chain", Edge.chain(20).windiest(), 19);
    }

    // "what there is", and "what if; nothing changes"
    private static void nothingChanges() {
        Edge.unchanged("of", Edge::lively, x -> x.of(0, 5), 18);
        Edge.unchanged("now", Edge::lively, x -> x.now(0, 0), 90);
        Edge.unchanged("record", Edge::lively, x -> x.record(7, 0), 120);
        Edge.unchanged("sign", Edge::lively, x -> x.sign(1), '(');
        for (int what : new int[] {4, 5, 6, 7}) {
            Edge.unchanged("count(" + what + ")", Edge::lively, x -> x.count(what), Edge.lively().count(what));
        }
        Edge.unchanged("ifWind", Edge::lively, x -> x.ifWind(0), 0);
        Edge.unchanged("windFor", Edge::lively, x -> x.windFor(999), HatWinds.NONE);
        Edge.unchanged("windFor of one", Edge::lively, x -> x.windFor(1), 17);
        Edge.unchanged("windOfFlag", Edge::lively, x -> x.windOfFlag(0, 12), 96);
        Edge.unchanged("without", Edge::lively, x -> x.without(1, 4), 513);
        Edge.unchanged("windiest", Edge::lively, HatWinds::windiest, 3);
        Edge.unchanged("fault", Edge::lively, HatWinds::fault, 6);
    }
}
