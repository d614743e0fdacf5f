/** Promises 14 to 18: ifWind, windFor, windOfFlag, without, windiest. */
final class WhatIfTest {
    private static final int FAR = Integer.MAX_VALUE, LOW = Integer.MIN_VALUE;

    public static void main(String[] args) {
        ifWind();
        windFor();
        windOfFlag();
        windOfFlagRefuses();
        without();
        withoutRefuses();
        windiest();
        nothingChanges();
        Due.end("WhatIfTest");
    }

    private static void ifWind() {
        HatWinds x = Town.of("1*99(1*20,3*40)");
        x.wind(10);
        // By 100: forces 100, 25, 80 and gusts 130, 32, 104.
        Due.is("ifWind(100)", x.ifWind(100), 28 + 4 + 22);
        Due.is("ifWind(0)", x.ifWind(0), 0);
        Due.is("ifWind(200)", x.ifWind(200), 61 + 12 + 40);
        Due.is("ifWind(-1)", x.ifWind(-1), HatWinds.BAD_VALUE);
        Due.is("ifWind(201)", x.ifWind(201), HatWinds.BAD_VALUE);
        Due.is("ifWind(far)", x.ifWind(FAR), HatWinds.BAD_VALUE);
        Due.is("ifWind(low)", x.ifWind(LOW), HatWinds.BAD_VALUE);
    }

    private static void windFor() {
        int[] lost = new int[201];
        HatWinds x = Town.of("1*99(1*20,3*40)");
        for (int force = 0; force <= 200; force++) {
            lost[force] = x.ifWind(force);
        }
        for (int hats = 1; hats <= 115; hats++) {
            int least = HatWinds.NONE;
            for (int force = 200; force >= 0; force--) {
                least = lost[force] >= hats ? force : least;
            }
            Due.is("windFor(" + hats + ")", x.windFor(hats), least);
        }
        HatWinds y = Town.of("1(1*9,1*9)");
        Due.is("before anything else is asked", y.windFor(1), 34);
        y.change(1, 3, 9);
        Due.is("by other widths", y.windFor(1), 17);
        y.change(1, 0, 1);
        Due.is("the flag by these", y.windOfFlag(1, 1), 8);
        y.change(2, 3, 9);
        Due.is("the flag by others", y.windOfFlag(1, 1), 16);
        y.change(2, 3, 1);
        y.wind(100);
        Due.is("the least by these", y.count(7), 2);
        y.change(1, 3, 1);
        y.change(2, 3, 2);
        Due.is("the least by others", y.count(7), 1);
        Due.is("windFor(113)", x.windFor(113), 200);
        Due.is("windFor(114)", x.windFor(114), HatWinds.NONE);
        Due.is("windFor(999)", x.windFor(999), HatWinds.NONE);
        Due.is("windFor(0)", x.windFor(0), HatWinds.BAD_VALUE);
        Due.is("windFor(1000)", x.windFor(1000), HatWinds.BAD_VALUE);
        Due.is("windFor(far)", x.windFor(FAR), HatWinds.BAD_VALUE);
        Due.is("windFor(low)", x.windFor(LOW), HatWinds.BAD_VALUE);
    }

    private static void windOfFlag() {
        HatWinds x = Town.of("1a(1b,1)");
        x.wind(3);
        Due.is("windOfFlag(0, 1)", x.windOfFlag(0, 1), 8);
        Due.is("windOfFlag(0, 12)", x.windOfFlag(0, 12), 96);
        Due.is("windOfFlag(1, 1)", x.windOfFlag(1, 1), 32);
        Due.is("windOfFlag(1, 6)", x.windOfFlag(1, 6), 192);
        Due.is("windOfFlag(1, 7)", x.windOfFlag(1, 7), HatWinds.NONE);
        Due.is("windOfFlag(1, 12)", x.windOfFlag(1, 12), HatWinds.NONE);
        x.change(0, 0, 5);
        x.set(HatWinds.STEP, 20);
        Due.is("two steps at most", x.windOfFlag(0, 2), 200);
        Due.is("never three", x.windOfFlag(0, 3), HatWinds.NONE);
    }

    private static void windOfFlagRefuses() {
        HatWinds x = Town.of("1a(1)");
        int[] streets = {-1, 2, 20, FAR, LOW};
        for (int street : streets) {
            Due.is("windOfFlag(" + street + ", 1)", x.windOfFlag(street, 1), HatWinds.NO_SUCH);
            Due.is("windOfFlag(" + street + ", 0)", x.windOfFlag(street, 0), HatWinds.NO_SUCH);
        }
        int[] steps = {0, 13, -1, FAR, LOW};
        for (int step : steps) {
            Due.is("windOfFlag(0, " + step + ")", x.windOfFlag(0, step), HatWinds.BAD_VALUE);
            Due.is("windOfFlag(1, " + step + ")", x.windOfFlag(1, step), HatWinds.BAD_VALUE);
        }
        Due.is("windOfFlag(1, 1)", x.windOfFlag(1, 1), HatWinds.NOT_POSSIBLE);
        x.set(HatWinds.STEP, 20);
        x.change(0, 0, 5);
        Due.is("windOfFlag(1, 12)", x.windOfFlag(1, 12), HatWinds.NOT_POSSIBLE);
    }

    private static void without() {
        HatWinds x = Town.of("9(8,1,9,2(3,3))");
        x.wind(100);
        // Together 20: forces 50, 5, 60, 15.
        Due.is("without(1, 2)", x.without(1, 2), 500 + 42 + 5 - 50);
        Due.is("without(1, 3)", x.without(1, 3), 500 + 72 + 10 - 50);
        Due.is("without(4, 2)", x.without(4, 2), 500 + 10 - 15);
        Due.is("without(2, 3)", x.without(2, 3), 500 + 9 - 5);
        Due.is("without(5, 6)", x.without(5, 6), 500 + 15 - 7);
        Due.is("the wind is as it was", x.now(1, 0), 50);
        x.wind(0);
        Due.is("without wind", x.without(1, 3), 500);
        HatWinds y = Town.of("1(1,1)");
        y.wind(200);
        Due.is("all of it", y.without(1, 2), 600);
    }

    private static void withoutRefuses() {
        HatWinds x = Town.of("1(2(3),4(5))");
        int[] streets = {-1, 5, 20, FAR, LOW, HatWinds.NONE};
        for (int street : streets) {
            Due.is("without(" + street + ", 1)", x.without(street, 1), HatWinds.NO_SUCH);
            Due.is("without(1, " + street + ")", x.without(1, street), HatWinds.NO_SUCH);
            Due.is("without(" + street + ", same)", x.without(street, street), HatWinds.NO_SUCH);
            Due.is("without(0, " + street + ")", x.without(0, street), HatWinds.NO_SUCH);
        }
        Due.is("without(0, 0)", x.without(0, 0), HatWinds.NOT_POSSIBLE);
        Due.is("without(1, 1)", x.without(1, 1), HatWinds.NOT_POSSIBLE);
        Due.is("without(1, 0)", x.without(1, 0), HatWinds.NOT_POSSIBLE);
        Due.is("without(0, 1)", x.without(0, 1), HatWinds.NOT_POSSIBLE);
        Due.is("without(1, 2)", x.without(1, 2), HatWinds.NOT_POSSIBLE);
        Due.is("without(2, 4)", x.without(2, 4), HatWinds.NOT_POSSIBLE);
        Due.is("without(1, 3)", x.without(1, 3), 500);
    }

    private static void windiest() {
        HatWinds x = new HatWinds();
        Due.is("the only one", x.windiest(), 0);
        HatWinds y = Town.of("1(3,3,2)");
        Due.is("without wind the lowest", y.windiest(), 1);
        y.wind(100);
        Due.is("the lowest of two", y.windiest(), 1);
        y.street(1, 1);
        Due.is("one at the end has as much", y.windiest(), 2);
        y.change(1, 3, 5);
        Due.is("the one behind a wide one", y.windiest(), 4);
        y.change(3, 3, 9);
        Due.is("a wider one", y.windiest(), 3);
    }

    private static void nothingChanges() {
        HatWinds x = Town.of("1a*9(2*40,3!*50)");
        x.wind(77);
        x.pass(2);
        String before = Town.look(x);
        x.ifWind(200);
        x.windFor(10);
        x.windFor(999);
        x.windOfFlag(0, 3);
        x.windOfFlag(0, 12);
        x.without(1, 2);
        x.windiest();
        Town.looksLike("after what would be", x, before);
        Due.is("no change", x.count(13), 3);
    }
}
