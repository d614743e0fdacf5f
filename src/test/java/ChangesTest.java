/** Promises 1 to 8: a new object, set, build, street, change, wind, pass, write. */
final class ChangesTest {
    private static final int FAR = Integer.MAX_VALUE, LOW = Integer.MIN_VALUE;

    public static void main(String[] args) {
        newObject();
        settings();
        settingsRefuse();
        buildReplacesTheStreets();
        buildLeavesNothing();
        buildKeepsTheRest();
        buildRefuses();
        streetComes();
        streetRefuses();
        change();
        changeRefuses();
        wind();
        pass();
        passRefuses();
        write();
        writeInOrderOfNumbers();
        writeRefuses();
        Due.end("ChangesTest");
    }

    private static void newObject() {
        HatWinds x = new HatWinds();
        int[] counts = {1, 0, 0, 0, 0, 0, 1, 0, 8, 20, 30, 12, 0, 0};
        for (int what = 0; what < counts.length; what++) {
            Due.is("new, count(" + what + ")", x.count(what), counts[what]);
        }
        int[] facts = {HatWinds.NONE, 1, 0, 0, 0, 0, 0, 0};
        for (int what = 0; what < facts.length; what++) {
            Due.is("new, of(0, " + what + ")", x.of(0, what), facts[what]);
        }
        Due.is("new, of(1, 0)", x.of(1, 0), HatWinds.NO_SUCH);
        Due.is("new, record(0, 0)", x.record(0, 0), HatWinds.NO_SUCH);
        Due.is("new, undo()", x.undo(), HatWinds.NOT_POSSIBLE);
        Due.is("new, restore(0)", x.restore(0), HatWinds.NOT_POSSIBLE);
        Due.is("new, restore(1)", x.restore(1), HatWinds.NOT_POSSIBLE);
    }

    private static void settings() {
        int[] least = {1, 1, 0, 1};
        int[] most = {20, 60, 100, 30};
        int[] first = {8, 20, 30, 12};
        HatWinds x = new HatWinds();
        for (int setting = 0; setting < 4; setting++) {
            Due.is("set to the most, " + setting, x.set(setting, most[setting]), first[setting]);
            Due.is("set to the least, " + setting, x.set(setting, least[setting]), most[setting]);
            Due.is("set to the same, " + setting, x.set(setting, least[setting]), least[setting]);
            Due.is("count after set, " + setting, x.count(8 + setting), least[setting]);
            Due.is("set below, " + setting, x.set(setting, least[setting] - 1), HatWinds.BAD_VALUE);
            Due.is("set above, " + setting, x.set(setting, most[setting] + 1), HatWinds.BAD_VALUE);
            Due.is("count after refused set, " + setting, x.count(8 + setting), least[setting]);
        }
        HatWinds y = Town.of("9a!*99");
        y.wind(100);
        Due.is("flag before STEP", y.now(0, 2), 12);
        y.set(HatWinds.STEP, 20);
        Due.is("flag after STEP", y.now(0, 2), 5);
        Due.is("smoke before LEAN", y.now(0, 3), 8);
        y.set(HatWinds.LEAN, 30);
        Due.is("smoke after LEAN", y.now(0, 3), 3);
        Due.is("gust before GUST", y.now(0, 1), 130);
        y.set(HatWinds.GUST, 0);
        Due.is("gust after GUST", y.now(0, 1), 100);
        Due.is("hats before HOLD", y.now(0, 4), 21);
        y.set(HatWinds.HOLD, 60);
        Due.is("hats after HOLD", y.now(0, 4), 11);
    }

    private static void settingsRefuse() {
        HatWinds x = new HatWinds();
        int[] settings = {-1, 4, 5, FAR, LOW};
        for (int setting : settings) {
            Due.is("set(" + setting + ", 5)", x.set(setting, 5), HatWinds.BAD_VALUE);
        }
        Due.is("set(0, far)", x.set(0, FAR), HatWinds.BAD_VALUE);
        Due.is("set(0, low)", x.set(0, LOW), HatWinds.BAD_VALUE);
        Due.is("a refused set is no change", x.count(13), 0);
        x.set(0, 8);
        Due.is("a set to the same is a change", x.count(13), 1);
    }

    private static void buildReplacesTheStreets() {
        HatWinds x = Town.of("9a!*30(8b!(5,6c!*4),2*40)");
        int[][] facts = {
            {HatWinds.NONE, 9, 1, 1, 30, 18, 4, 0},
            {0, 8, 2, 1, 0, 12, 2, 1},
            {1, 5, 0, 0, 0, 0, 0, 2},
            {1, 6, 3, 1, 4, 0, 0, 2},
            {0, 2, 0, 0, 40, 0, 0, 1}
        };
        for (int street = 0; street < facts.length; street++) {
            for (int what = 0; what < facts[street].length; what++) {
                Due.is("built, of(" + street + ", " + what + ")", x.of(street, what), facts[street][what]);
            }
        }
        Due.is("the pad is emptied", x.count(12), 0);
        Town.put(x, "3*0(4e)");
        Due.is("built again", x.build(), 2);
        int[][] fewer = {{HatWinds.NONE, 3, 0, 0, 0, 2, 1, 0}, {0, 4, 5, 0, 0, 0, 0, 1}};
        for (int street = 0; street < fewer.length; street++) {
            for (int what = 0; what < fewer[street].length; what++) {
                Due.is("built again, of(" + street + ", " + what + ")", x.of(street, what), fewer[street][what]);
            }
        }
        Due.is("streets of before are gone", x.of(2, 0), HatWinds.NO_SUCH);
    }

    private static void buildLeavesNothing() {
        HatWinds x = Town.of("1*1(9e!*99,9(1d!*99))");
        x.wind(200);
        Due.is("windiest of before", x.windiest(), 1);
        Town.put(x, "1*2");
        Due.is("fewer streets", x.build(), 1);
        x.wind(100);
        Due.is("people of all", x.count(4), 2);
        Due.is("hats of all", x.count(5), 2);
        Due.is("shelters of all", x.count(6), 0);
        Due.is("least force of all", x.count(7), 0);
        Due.is("windiest of all", x.windiest(), 0);
        Due.is("windFor all", x.windFor(3), HatWinds.NONE);
        x.pass(1);
        Due.is("most lost of all", x.record(0, 2), 0);
        Due.is("behind the first", x.of(0, 6), 0);
        x.street(0, 1);
        int[] facts = {0, 1, 0, 0, 0, 0, 0, 1};
        for (int what = 0; what < facts.length; what++) {
            Due.is("a street where another was, of(1, " + what + ")", x.of(1, what), facts[what]);
        }
    }

    private static void buildKeepsTheRest() {
        HatWinds x = Town.of("1*50");
        x.set(HatWinds.HOLD, 10);
        x.wind(100);
        x.pass(2);
        Town.put(x, "2");
        Due.is("build() anew", x.build(), 1);
        Due.is("the wind stays", x.count(1), 100);
        Due.is("the hours stay", x.count(2), 2);
        Due.is("the hats lost stay", x.count(3), 62);
        Due.is("the records stay", x.record(1, 1), 31);
        Due.is("the settings stay", x.count(9), 10);
        Due.is("the changes are counted", x.count(13), 5);
        Due.is("the build is undone", x.undo(), 4);
        Due.is("the streets are back", x.of(0, 4), 50);
        Due.is("the pad is not", x.count(12), 0);
    }

    private static void buildRefuses() {
        HatWinds x = Town.of("7*3");
        Due.is("build() of an empty pad", x.build(), HatWinds.BAD_TEXT);
        Town.put(x, "1(2");
        Due.is("build() of a text that ends too early", x.build(), HatWinds.BAD_TEXT);
        Due.is("the pad stays", x.count(12), 3);
        Due.is("the streets stay", x.of(0, 1), 7);
        Due.is("it is no change", x.count(13), 1);
        Town.put(x, ")x");
        Due.is("build() of a text with a wrong sign", x.build(), HatWinds.BAD_TEXT);
    }

    private static void streetComes() {
        HatWinds x = Town.of("5a!*9");
        Due.is("street(0, 9)", x.street(0, 9), 1);
        Due.is("street(1, 1)", x.street(1, 1), 2);
        int[] facts = {1, 1, 0, 0, 0, 0, 0, 2};
        for (int what = 0; what < facts.length; what++) {
            Due.is("come, of(2, " + what + ")", x.of(2, what), facts[what]);
        }
        HatWinds y = Town.of("1(2,3c!*77)");
        y.undo();
        Due.is("a street where another was", y.street(0, 4), 1);
        Due.is("a street where one with a flag was", y.street(0, 4), 2);
        Due.is("its flag", y.of(2, 2), 0);
        Due.is("its smoke", y.of(2, 3), 0);
        Due.is("its people", y.of(2, 4), 0);
    }

    private static void streetRefuses() {
        HatWinds x = new HatWinds();
        Due.is("street(-1, 0)", x.street(-1, 0), HatWinds.NO_SUCH);
        Due.is("street(1, 10)", x.street(1, 10), HatWinds.NO_SUCH);
        Due.is("street(far, 1)", x.street(FAR, 1), HatWinds.NO_SUCH);
        Due.is("street(low, 1)", x.street(LOW, 1), HatWinds.NO_SUCH);
        Due.is("street(0, 0)", x.street(0, 0), HatWinds.BAD_VALUE);
        Due.is("street(0, 10)", x.street(0, 10), HatWinds.BAD_VALUE);
        for (int street = 1; street <= 4; street++) {
            Due.is("street(0, 1), the " + street + ".", x.street(0, 1), street);
        }
        Due.is("a fifth off one", x.street(0, 1), HatWinds.TOO_MANY);
        Due.is("a fifth off one of no width", x.street(0, 0), HatWinds.BAD_VALUE);
        for (int street = 5; street < 20; street++) {
            Due.is("street(" + (street - 1) + ", 2)", x.street(street - 1, 2), street);
        }
        Due.is("a 21st", x.street(19, 2), HatWinds.TOO_MANY);
        Due.is("a 21st of no width", x.street(19, 0), HatWinds.BAD_VALUE);
        Due.is("a 21st off none", x.street(20, 1), HatWinds.NO_SUCH);
        Due.is("20 streets", x.count(0), 20);
        Due.is("depth of the last", x.of(19, 7), 16);
        x.wind(200);
        Due.is("the force in the last", x.now(19, 0), 50);
        Due.is("the windiest of all", x.windiest(), 1);
        Due.is("hats in all", x.count(5), 0);
    }

    private static void change() {
        int[] least = {0, 0, 0, 1};
        int[] most = {5, 1, 99, 9};
        int[] first = {0, 0, 0, 3};
        int[] asOf = {2, 3, 4, 1};
        HatWinds x = new HatWinds();
        x.street(0, 3);
        for (int what = 0; what < 4; what++) {
            Due.is("change to the most, " + what, x.change(1, what, most[what]), first[what]);
            Due.is("of after change, " + what, x.of(1, asOf[what]), most[what]);
            Due.is("the other street stays, " + what, x.of(0, asOf[what]), least[what]);
            Due.is("change to the least, " + what, x.change(1, what, least[what]), most[what]);
            Due.is("below, " + what, x.change(1, what, least[what] - 1), HatWinds.BAD_VALUE);
            Due.is("above, " + what, x.change(1, what, most[what] + 1), HatWinds.BAD_VALUE);
            Due.is("of after refused change, " + what, x.of(1, asOf[what]), least[what]);
        }
        Due.is("the width of the top one", x.change(0, 3, 9), 1);
        Due.is("it is told", x.of(0, 1), 9);
    }

    private static void changeRefuses() {
        HatWinds x = new HatWinds();
        Due.is("change(1, 9, 900)", x.change(1, 9, 900), HatWinds.NO_SUCH);
        Due.is("change(-1, 0, 0)", x.change(-1, 0, 0), HatWinds.NO_SUCH);
        Due.is("change(far, 0, 0)", x.change(FAR, 0, 0), HatWinds.NO_SUCH);
        Due.is("change(0, -1, 1)", x.change(0, -1, 1), HatWinds.BAD_VALUE);
        Due.is("change(0, 4, 1)", x.change(0, 4, 1), HatWinds.BAD_VALUE);
        Due.is("change(0, far, 1)", x.change(0, FAR, 1), HatWinds.BAD_VALUE);
        Due.is("change(0, low, 1)", x.change(0, LOW, 1), HatWinds.BAD_VALUE);
        Due.is("change(0, 2, far)", x.change(0, 2, FAR), HatWinds.BAD_VALUE);
        Due.is("no change", x.count(13), 0);
    }

    private static void wind() {
        HatWinds x = new HatWinds();
        Due.is("wind(200)", x.wind(200), 0);
        Due.is("wind(17)", x.wind(17), 200);
        Due.is("wind(-1)", x.wind(-1), HatWinds.BAD_VALUE);
        Due.is("wind(201)", x.wind(201), HatWinds.BAD_VALUE);
        Due.is("wind(far)", x.wind(FAR), HatWinds.BAD_VALUE);
        Due.is("wind(low)", x.wind(LOW), HatWinds.BAD_VALUE);
        Due.is("it is still 17", x.count(1), 17);
        Due.is("wind(0)", x.wind(0), 17);
        Due.is("three changes", x.count(13), 3);
    }

    private static void pass() {
        HatWinds x = Town.of("1(1*50,1*50)");
        Due.is("an hour without wind", x.pass(1), 0);
        x.wind(100);
        // Each of two streets has force 50, gust 65, and loses 45 / 4 + 1.
        Due.is("two hours", x.pass(2), 48);
        Due.is("hours", x.count(2), 3);
        Due.is("hats so far", x.count(3), 48);
        Due.is("the latest record, force", x.record(0, 0), 100);
        Due.is("the latest record, hats", x.record(0, 1), 24);
        Due.is("the latest record, the lowest of several", x.record(0, 2), 1);
        Due.is("the one before", x.record(1, 1), 24);
        Due.is("the first, force", x.record(2, 0), 0);
        Due.is("the first, no hats", x.record(2, 1), 0);
        Due.is("the first, no street", x.record(2, 2), HatWinds.NONE);
        Due.is("the people have their hats again", x.count(5), 24);
        x.change(2, 3, 2);
        // Forces 33 and 71, gusts 42 and 92.
        Due.is("an hour of other widths", x.pass(1), 6 + 19);
        Due.is("where most are lost", x.record(0, 2), 2);
        x.wind(0);
        x.change(1, 2, 1);
        x.change(2, 2, 0);
        x.wind(200);
        Due.is("an hour that takes one hat", x.pass(1), 1);
        Due.is("where one is lost", x.record(0, 2), 1);
        Due.is("undone at once", x.undo(), 5);
        Due.is("undone at once", x.undo(), 4);
        Due.is("undone at once", x.undo(), 3);
        Due.is("undone at once", x.undo(), 2);
        Due.is("undone at once", x.undo(), 1);
        Due.is("hats with the hour before", x.count(3), 73);
        Due.is("undone at once", x.undo(), 0);
        Due.is("hats without it", x.count(3), 48);
        HatWinds y = Town.of("1*7");
        y.wind(200);
        Due.is("a day", y.pass(24), 168);
        Due.is("one change", y.count(13), 3);
        Due.is("no more hats than there are", y.record(7, 1), 7);
        Due.is("eight records", y.record(8, 0), HatWinds.NO_SUCH);
    }

    private static void passRefuses() {
        HatWinds x = new HatWinds();
        Due.is("pass(0)", x.pass(0), HatWinds.BAD_VALUE);
        Due.is("pass(-1)", x.pass(-1), HatWinds.BAD_VALUE);
        Due.is("pass(25)", x.pass(25), HatWinds.BAD_VALUE);
        Due.is("pass(far)", x.pass(FAR), HatWinds.BAD_VALUE);
        for (int day = 1; day <= 41; day++) {
            Due.is("pass(24), day " + day, x.pass(24), 0);
        }
        Due.is("984 hours", x.count(2), 984);
        Due.is("16 more would be 1000", x.pass(16), HatWinds.NOT_POSSIBLE);
        Due.is("25 more are out of range first", x.pass(25), HatWinds.BAD_VALUE);
        Due.is("15 more", x.pass(15), 0);
        Due.is("999 hours", x.count(2), 999);
        Due.is("no one more", x.pass(1), HatWinds.NOT_POSSIBLE);
        Due.is("none of none", x.pass(0), HatWinds.BAD_VALUE);
    }

    private static void write() {
        HatWinds x = new HatWinds();
        Due.is("write() of the first street", x.write(), 1);
        Town.padIs(x, "1");
        String[] texts = {"9a!*30(8b!(5,6c!*4),2*40)", "1e", "2!", "3*9", "4*10", "5*99(6d*1(7(8)),9!)", "1(1,1,1,1)"};
        for (String text : texts) {
            HatWinds y = Town.of(text);
            Due.is("write() of " + text, y.write(), text.length());
            Town.padIs(y, text);
            Due.is("written is no change", y.count(13), 1);
        }
        String deep = "1(".repeat(19) + "1" + ")".repeat(19);
        HatWinds d = Town.of(deep);
        Due.is("write() of a long way", d.write(), 58);
        Town.padIs(d, deep);
        HatWinds z = Town.of("5*0(6*0)");
        Town.put(z, "abcdefgh");
        Due.is("without people none are told", z.write(), 4);
        Town.padIs(z, "5(6)");
    }

    private static void writeInOrderOfNumbers() {
        HatWinds x = Town.of("1(2,3)");
        x.street(1, 4);
        x.street(0, 5);
        x.street(1, 6);
        x.change(5, 2, 20);
        Due.is("write() of streets that came later", x.write(), 16);
        Town.padIs(x, "1(2(4,6*20),3,5)");
    }

    private static void writeRefuses() {
        HatWinds x = Town.of("1(1(1,1,1,1),1(1,1,1,1),1(1,1,1,1),1(1,1,1))");
        Due.is("20 streets", x.write(), 44);
        x.change(0, 2, 10);
        for (int street = 1; street <= 11; street++) {
            x.change(street, 2, 10);
        }
        Due.is("80 signs", x.write(), 80);
        String before = Town.pad(x);
        x.change(12, 0, 1);
        Due.is("81 signs", x.write(), HatWinds.TOO_MANY);
        Town.padIs(x, before);
        x.change(13, 2, 99);
        Due.is("84 signs", x.write(), HatWinds.TOO_MANY);
        x.change(12, 0, 0);
        x.change(13, 2, 0);
        Due.is("80 signs again", x.write(), 80);
        Due.is("they are streets", x.fault(), HatWinds.NONE);
    }
}
