import java.util.function.Supplier;

/** Each sentence of the promises 1 to 8 that names a boundary case; the sentence stands above its test. */
final class ChangesEdgesTest {
    private static final int FAR = Integer.MAX_VALUE, LOW = Integer.MIN_VALUE;
    private static final String EIGHTY = "1a!*10(".repeat(9) + "1a!*10,1" + ")".repeat(9);

    public static void main(String[] args) {
        newIsEmpty();
        setErrors();
        buildErrors();
        buildOfLeastAndMost();
        buildKeeps();
        streetErrors();
        streetComesBare();
        changeErrors();
        changeToTheSame();
        windErrors();
        passErrors();
        passOfMostHours();
        writeErrors();
        writeFills();
        writeTellsWhatThereIs();
        Due.end("ChangesEdgesTest");
    }

    // 1: "Creates a town with the street 0 alone, of the width 1: no flag, no smoke, no people."
    private static void newIsEmpty() {
        HatWinds x = new HatWinds();
        Due.is("one street", x.count(0), 1);
        Due.is("no second", x.of(1, 1), HatWinds.NO_SUCH);
        Due.is("its width", x.of(0, 1), 1);
        Due.is("its flag", x.of(0, 2), 0);
        Due.is("its smoke", x.of(0, 3), 0);
        Due.is("its people", x.of(0, 4), 0);
        Due.is("no branches", x.of(0, 5), 0);
        Due.is("none behind it", x.of(0, 6), 0);
        Due.is("no sign", x.sign(0), HatWinds.NO_SUCH);
        Due.is("an empty pad", x.count(12), 0);
        Due.is("no record", x.record(0, 0), HatWinds.NO_SUCH);
        Due.is("no hat lost", x.count(3), 0);
        Edge.unchanged("undo() of a new object", HatWinds::new, HatWinds::undo, HatWinds.NOT_POSSIBLE);
        Edge.unchanged("restore(0) of a new object", HatWinds::new, y -> y.restore(0), HatWinds.NOT_POSSIBLE);
        Edge.unchanged("restore(1) of a new object", HatWinds::new, y -> y.restore(1), HatWinds.NOT_POSSIBLE);
        Edge.unchanged("build() of a new object", HatWinds::new, HatWinds::build, HatWinds.BAD_TEXT);
        Edge.unchanged("wipe() of a new object", HatWinds::new, HatWinds::wipe, 0);
        Edge.unchanged("fault() of a new object", HatWinds::new, HatWinds::fault, 0);
    }

    // 2: "BAD_VALUE if there is no such setting, or the value is out of its range"
    private static void setErrors() {
        for (int value : new int[] {0, 1, 8, 100}) {
            Edge.refusedAt("a setting of " + value, Edge::lively, (x, setting) -> x.set(setting, value), HatWinds.BAD_VALUE, -1, 4, FAR, LOW);
        }
        Due.is("the same value is no error", new HatWinds().set(HatWinds.STEP, 8), 8);
    }

    // 3: "Returns how many streets there are then; BAD_TEXT if the pad has a fault."
    private static void buildErrors() {
        String[] faulty = {"", "0", "x1", "1(", "1*", "1(2,3", "1(2,3)4", "1(2,3,4,5,6)", "1".repeat(80)};
        for (String text : faulty) {
            Edge.unchanged("build() of '" + text + "'", () -> withPad(text), HatWinds::build, HatWinds.BAD_TEXT);
        }
        String tooMany = "1(1(1,1,1,1),1(1,1,1,1),1(1,1,1,1),1(1,1,1,1))";
        Edge.unchanged("build() of 21 streets", () -> withPad(tooMany), HatWinds::build, HatWinds.BAD_TEXT);
    }

    private static HatWinds withPad(String text) {
        HatWinds x = Edge.lively();
        x.wipe();
        Town.put(x, text);
        return x;
    }

    // 3: "in place of all that there are; the pad is emptied"
    private static void buildOfLeastAndMost() {
        String[] texts = {"1", "9e!*99", "1(2,3,4,5)", "1(1(1,1,1,1),1(1,1,1,1),1(1,1,1,1),1(1,1,1))", EIGHTY};
        int[] streets = {1, 1, 5, 20, 11};
        for (int at = 0; at < texts.length; at++) {
            HatWinds x = withPad(texts[at]);
            Due.is("build() of " + texts[at], x.build(), streets[at]);
            Due.is("streets of " + texts[at], x.count(0), streets[at]);
            Due.is("no more of " + texts[at], x.of(streets[at], 1), HatWinds.NO_SUCH);
            Due.is("the pad is empty", x.count(12), 0);
            Due.is("no sign is left", x.sign(0), HatWinds.NO_SUCH);
            Due.is("the fault of the empty pad", x.fault(), 0);
            Due.is("build() of the empty pad", x.build(), HatWinds.BAD_TEXT);
            Due.is("write() of what was built", x.write(), texts[at].length());
            Town.padIs(x, texts[at]);
        }
    }

    // 3: "the wind, records and counts stay. This is a change."
    private static void buildKeeps() {
        HatWinds x = withPad("4(5d*7)");
        int[] stay = {1, 2, 3, 8, 9, 10, 11};
        HatWinds y = Edge.lively();
        Due.is("build()", x.build(), 2);
        for (int what : stay) {
            Due.is("count(" + what + ") stays", x.count(what), y.count(what));
        }
        for (int rank = 0; rank < 8; rank++) {
            for (int what = 0; what < 3; what++) {
                Due.is("record(" + rank + ", " + what + ") stays", x.record(rank, what), y.record(rank, what));
            }
        }
        // A record tells the street that it told before, also if there are not so many now.
        HatWinds z = Town.of("1(1,1*9)");
        z.wind(200);
        z.pass(1);
        z.put('1');
        Due.is("build() of one street", z.build(), 1);
        Due.is("the street of the record", z.record(0, 2), 2);
        z.undo();
        Due.is("it was one change", z.count(0), 3);
    }

    // 4: "NO_SUCH if there is no such street; BAD_VALUE if width is out of range; TOO_MANY if there are 20 streets, or 4
    // that branch off that one."
    private static void streetErrors() {
        for (int width : new int[] {1, 9, 0, 10, FAR}) {
            refusedStreets("off the wrong one, " + width + " wide", Edge::lively, width, HatWinds.NO_SUCH, -1, 6, 20, FAR, LOW);
            refusedStreets("of 20, off the wrong one, " + width + " wide", Edge::full, width, HatWinds.NO_SUCH, -1, 20, FAR, LOW);
        }
        for (int width : new int[] {0, 10, -1, FAR, LOW}) {
            refusedStreets(width + " wide", Edge::lively, width, HatWinds.BAD_VALUE, 0, 5);
            refusedStreets("of 20, " + width + " wide", Edge::full, width, HatWinds.BAD_VALUE, 0, 19);
            refusedStreets("a fifth, " + width + " wide", () -> Town.of("1(2,3,4,5)"), width, HatWinds.BAD_VALUE, 0);
        }
        refusedStreets("a 21st", Edge::full, 1, HatWinds.TOO_MANY, 0, 1, 16, 19);
        refusedStreets("a fifth", () -> Town.of("1(2,3,4,5(6,7,8,9))"), 1, HatWinds.TOO_MANY, 0, 4);
        Due.is("off the last that there is", Edge.lively().street(5, 1), 6);
        Due.is("the 20th off one that has three", Town.of("1(1(1,1,1,1),1(1,1,1,1),1(1,1,1,1),1(1,1))").street(16, 1), 19);
    }

    private static void refusedStreets(String what, Supplier<HatWinds> made, int width, int error, int... from) {
        Edge.refusedAt("street " + what, made, (x, street) -> x.street(street, width), error, from);
    }

    // 4: "A street comes, without flag, smoke and people. This is a change. .. Returns its number"
    private static void streetComesBare() {
        for (int kind = 0; kind < 3; kind++) {
            HatWinds x = Town.of("9e!*99(9e!*99,9e!*99)");
            if (kind == 0) {
                x.undo();
            }
            if (kind == 1) {
                x.put('2');
                x.build();
            }
            int number = kind == 2 ? 3 : 1;
            Due.is("its number", x.street(0, 4), number);
            int[] facts = {0, 4, 0, 0, 0, 0, 0, 1};
            for (int what = 0; what < facts.length; what++) {
                Due.is("it comes bare, of(" + number + ", " + what + ")", x.of(number, what), facts[what]);
            }
            x.undo();
            Due.is("it was one change", x.count(0), number);
        }
    }

    // 5: "NO_SUCH if there is no such street; BAD_VALUE if what or value is out of range."
    private static void changeErrors() {
        for (int what : new int[] {0, 3, -1, 4}) {
            for (int value : new int[] {1, -1, 100}) {
                Edge.refusedAt("change(.., " + what + ", " + value + ")", Edge::lively, (x, street) -> x.change(street, what, value),
                    HatWinds.NO_SUCH, -1, 6, 20, FAR, LOW);
            }
        }
        for (int value : new int[] {0, 1, -1, 100}) {
            Edge.refusedAt("change(5, .., " + value + ")", Edge::lively, (x, what) -> x.change(5, what, value), HatWinds.BAD_VALUE,
                -1, 4, FAR, LOW);
        }
        int[] least = {0, 0, 0, 1}, most = {5, 1, 99, 9};
        for (int at = 0; at < least.length; at++) {
            int what = at;
            for (int each : new int[] {0, 5}) {
                Edge.range("change(" + each + ", " + what + ", ..)", Edge::lively, (x, value) -> x.change(each, what, value),
                    least[at], most[at], HatWinds.BAD_VALUE);
            }
            HatWinds x = Town.of("5(5,5)");
            int first = what == 3 ? 5 : 0;
            Due.is("to the least, " + what, x.change(2, what, least[at]), first);
            Due.is("to the most, " + what, x.change(2, what, most[at]), least[at]);
            Due.is("back, " + what, x.change(2, what, least[at]), most[at]);
            Due.is("the one before it is as it was, " + what, x.change(1, what, least[at]), first);
        }
    }

    // 22: "records the state before it (also if nothing is different then)"
    private static void changeToTheSame() {
        HatWinds x = Town.of("3b!*40");
        int[] same = {2, 1, 40, 3};
        for (int what = 0; what < same.length; what++) {
            Due.is("to the same, " + what, x.change(0, what, same[what]), same[what]);
            Due.is("it is a change, " + what, x.count(13), 2 + what);
        }
    }

    // 6: "Returns the previous force; BAD_VALUE if force is out of range."
    private static void windErrors() {
        Due.is("the previous force", Edge.lively().wind(0), 90);
        HatWinds x = new HatWinds();
        int[] forces = {0, 200, 0, 1, 199, 199};
        int previous = 0;
        for (int force : forces) {
            Due.is("wind(" + force + ")", x.wind(force), previous);
            previous = force;
        }
        Due.is("each is a change", x.count(13), 6);
        Edge.refusedAt("wind", Edge::lively, HatWinds::wind, HatWinds.BAD_VALUE, -1, 201, FAR, LOW);
    }

    // 7: "BAD_VALUE if hours is out of range; NOT_POSSIBLE if there would be more than 999 hours."
    private static void passErrors() {
        Edge.range("pass", Edge::lively, HatWinds::pass, 1, 24, HatWinds.BAD_VALUE);
        Edge.refusedAt("pass after 999 hours", () -> Edge.aged(999), HatWinds::pass, HatWinds.BAD_VALUE, 0, -1, 25, FAR, LOW);
        Edge.refusedAt("pass after 999 hours", () -> Edge.aged(999), HatWinds::pass, HatWinds.NOT_POSSIBLE, 1, 2, 24);
        Edge.refusedAt("pass after 998 hours", () -> Edge.aged(998), HatWinds::pass, HatWinds.NOT_POSSIBLE, 2, 24);
        Edge.refusedAt("pass after 976 hours", () -> Edge.aged(976), HatWinds::pass, HatWinds.NOT_POSSIBLE, 24);
        int[] hours = {998, 976, 975};
        for (int before : hours) {
            HatWinds x = Edge.aged(before);
            int left = Math.min(24, 999 - before);
            Due.is("pass(" + left + ") after " + before, x.pass(left), 3 * left);
            Due.is("hours then", x.count(2), before + left);
            Due.is("hats then", x.count(3), 3 * (before + left));
        }
        HatWinds y = Edge.aged(999);
        y.undo();
        Due.is("hours that are undone", y.count(2), 984);
        Due.is("can pass again", y.pass(15), 45);
        Due.is("999 again", y.count(2), 999);
    }

    // 7: "Returns how many hats are lost in them"
    private static void passOfMostHours() {
        HatWinds x = Edge.chain(20);
        for (int street = 0; street < 20; street++) {
            x.change(street, 2, 99);
        }
        x.set(HatWinds.HOLD, 1);
        x.set(HatWinds.GUST, 100);
        x.wind(200);
        Due.is("all hats of a day", x.pass(24), 24 * 1980);
        Due.is("all hats of an hour", x.record(7, 1), 1980);
        for (int day = 2; day <= 41; day++) {
            x.pass(24);
        }
        x.pass(15);
        Due.is("all hats of all hours", x.count(3), 999 * 1980);
        HatWinds y = Town.of("1*5");
        Due.is("no hat without wind", y.pass(1), 0);
        Due.is("no hat so far", y.count(3), 0);
        Due.is("an hour so far", y.count(2), 1);
    }

    // 8: "Returns the length of the pad then; TOO_MANY if it would be longer than 80 characters."
    private static void writeErrors() {
        HatWinds x = Town.of(EIGHTY);
        Due.is("write() of 80 signs", x.write(), 80);
        Town.padIs(x, EIGHTY);
        Due.is("write() over 80 signs", x.write(), 80);
        Due.is("79 signs", with(0, 1, 0).write(), 79);
        Edge.unchanged("81 signs by a flag", () -> with(10, 0, 1), HatWinds::write, HatWinds.TOO_MANY);
        Edge.unchanged("81 signs by smoke", () -> with(10, 1, 1), HatWinds::write, HatWinds.TOO_MANY);
        Edge.unchanged("82 signs by people", () -> with(10, 2, 9), HatWinds::write, HatWinds.TOO_MANY);
        Edge.unchanged("as many signs as there can be", ChangesEdgesTest::longest, HatWinds::write, HatWinds.TOO_MANY);
        HatWinds y = with(10, 0, 1);
        Due.is("81 signs", y.write(), HatWinds.TOO_MANY);
        y.undo();
        Due.is("80 signs behind a refused write()", y.write(), 80);
        Town.padIs(y, EIGHTY);
        HatWinds z = Edge.chain(20);
        Due.is("twenty streets in a row", z.write(), 58);
        Town.padIs(z, "1(".repeat(19) + "1" + ")".repeat(19));
    }

    private static HatWinds with(int street, int what, int value) {
        HatWinds x = Town.of(EIGHTY);
        x.save(0);
        Town.put(x, "1(2,3");
        x.change(street, what, value);
        return x;
    }

    private static HatWinds longest() {
        HatWinds x = Edge.full();
        for (int street = 0; street < 20; street++) {
            x.change(street, 0, 5);
            x.change(street, 1, 1);
            x.change(street, 2, 99);
        }
        Town.put(x, "9(8");
        return x;
    }

    // 8: "Writes all streets into the pad as a text, in place of what was there .. This is not a change."
    private static void writeFills() {
        HatWinds x = new HatWinds();
        Town.put(x, "~".repeat(80));
        Due.is("write() over a full pad", x.write(), 1);
        Town.padIs(x, "1");
        Due.is("no second sign", x.sign(1), HatWinds.NO_SUCH);
        Due.is("it is no change", x.count(13), 0);
        Due.is("the text can be added to", x.put('a'), 2);
        Town.padIs(x, "1a");
    }

    // 8: "of a street its width, its flag, its smoke, its people, if there are any, and those that branch off it, in the
    // order of their numbers"
    private static void writeTellsWhatThereIs() {
        int[] people = {0, 1, 9, 10, 11, 90, 99};
        for (int many : people) {
            HatWinds x = new HatWinds();
            x.change(0, 2, many);
            String want = many == 0 ? "1" : "1*" + many;
            Due.is("write() of " + many + " people", x.write(), want.length());
            Town.padIs(x, want);
        }
        for (int cloth = 0; cloth <= 5; cloth++) {
            for (int smoke = 0; smoke <= 1; smoke++) {
                HatWinds x = new HatWinds();
                x.change(0, 0, cloth);
                x.change(0, 1, smoke);
                x.write();
                Town.padIs(x, "1" + (cloth > 0 ? "" + (char) ('a' + cloth - 1) : "") + (smoke == 1 ? "!" : ""));
            }
        }
        HatWinds y = Town.of("1(2(3,4),5)");
        y.street(2, 6);
        y.street(4, 7);
        y.street(0, 8);
        y.street(1, 9);
        y.write();
        Town.padIs(y, "1(2(3(6),4,9),5(7),8)");
        Due.is("build() numbers anew", y.build(), 9);
        y.write();
        Town.padIs(y, "1(2(3(6),4,9),5(7),8)");
        Due.is("by the order of the text", y.of(3, 1), 6);
    }
}
