/** Promises 9 to 13: of, now, record, sign, count. */
final class AnswersTest {
    private static final int FAR = Integer.MAX_VALUE, LOW = Integer.MIN_VALUE;

    public static void main(String[] args) {
        of();
        ofRefuses();
        forces();
        forcesNeverGrow();
        flags();
        smoke();
        gusts();
        hats();
        nowRefuses();
        records();
        signs();
        counts();
        Due.end("AnswersTest");
    }

    private static void of() {
        HatWinds x = Town.of("3(4(5(6(7))),8b!*12)");
        x.street(0, 9);
        x.street(5, 1);
        int[] from = {HatWinds.NONE, 0, 1, 2, 3, 0, 0, 5};
        int[] branches = {2 + 32 + 64, 4, 8, 16, 0, 128, 0, 0};
        int[] behind = {7, 3, 2, 1, 0, 1, 0, 0};
        int[] far = {0, 1, 2, 3, 4, 1, 1, 2};
        for (int street = 0; street < from.length; street++) {
            Due.is("of(" + street + ", 0)", x.of(street, 0), from[street]);
            Due.is("of(" + street + ", 5)", x.of(street, 5), branches[street]);
            Due.is("of(" + street + ", 6)", x.of(street, 6), behind[street]);
            Due.is("of(" + street + ", 7)", x.of(street, 7), far[street]);
        }
        Due.is("of(5, 1)", x.of(5, 1), 8);
        Due.is("of(5, 2)", x.of(5, 2), 2);
        Due.is("of(5, 3)", x.of(5, 3), 1);
        Due.is("of(5, 4)", x.of(5, 4), 12);
        HatWinds y = new HatWinds();
        for (int street = 0; street < 19; street++) {
            y.street(street, 1);
        }
        Due.is("of(19, 7) of a long way", y.of(19, 7), 19);
        Due.is("of(0, 6) of a long way", y.of(0, 6), 19);
        Due.is("of(18, 5) of a long way", y.of(18, 5), 1 << 19);
    }

    private static void ofRefuses() {
        HatWinds x = new HatWinds();
        int[] streets = {-1, 1, 20, FAR, LOW};
        for (int street : streets) {
            Due.is("of(" + street + ", 0)", x.of(street, 0), HatWinds.NO_SUCH);
            Due.is("of(" + street + ", 8)", x.of(street, 8), HatWinds.NO_SUCH);
            Due.is("now(" + street + ", 0)", x.now(street, 0), HatWinds.NO_SUCH);
            Due.is("now(" + street + ", 5)", x.now(street, 5), HatWinds.NO_SUCH);
        }
        int[] whats = {-1, 8, FAR, LOW};
        for (int what : whats) {
            Due.is("of(0, " + what + ")", x.of(0, what), HatWinds.BAD_VALUE);
        }
    }

    private static void forces() {
        HatWinds x = Town.of("9(1,2,2,4(1,1))");
        x.wind(100);
        // Together 9: a share each, and 5 more for each that is narrower.
        int[] want = {100, 11, 27, 27, 59, 29, 29};
        for (int street = 0; street < want.length; street++) {
            Due.is("force of " + street, x.now(street, 0), want[street]);
        }
        x.wind(0);
        for (int street = 0; street < want.length; street++) {
            Due.is("no wind in " + street, x.now(street, 0), 0);
        }
        HatWinds y = Town.of("1(1,1,1)");
        y.wind(200);
        Due.is("rounded down", y.now(2, 0), 66);
    }

    private static void forcesNeverGrow() {
        HatWinds x = Town.of("1(1,9(3))");
        x.wind(8);
        Due.is("not more than what comes in", x.now(2, 0), 8);
        Due.is("all goes into the only branch", x.now(3, 0), 8);
        Due.is("the narrow one", x.now(1, 0), 0);
        x.wind(50);
        Due.is("45 and 5 are 50", x.now(2, 0), 50);
        x.wind(51);
        Due.is("45 and 5 are less than 51", x.now(2, 0), 50);
    }

    private static void flags() {
        HatWinds x = Town.of("1c");
        int[] winds = {0, 23, 24, 47, 48, 200};
        int[] steps = {0, 0, 1, 1, 2, 8};
        for (int at = 0; at < winds.length; at++) {
            x.wind(winds[at]);
            Due.is("a flag of cloth 3 by " + winds[at], x.now(0, 2), steps[at]);
        }
        x.set(HatWinds.STEP, 1);
        x.wind(38);
        Due.is("12 steps", x.now(0, 2), 12);
        x.wind(39);
        Due.is("13 would be too many", x.now(0, 2), 12);
        x.wind(35);
        Due.is("11 steps", x.now(0, 2), 11);
        x.change(0, 0, 0);
        Due.is("no flag", x.now(0, 2), HatWinds.NONE);
    }

    private static void smoke() {
        HatWinds x = Town.of("1!");
        int[] winds = {0, 11, 12, 107, 108, 200};
        int[] steps = {0, 0, 1, 8, 9, 9};
        for (int at = 0; at < winds.length; at++) {
            x.wind(winds[at]);
            Due.is("smoke by " + winds[at], x.now(0, 3), steps[at]);
        }
        x.change(0, 1, 0);
        Due.is("no smoke", x.now(0, 3), HatWinds.NONE);
    }

    private static void gusts() {
        HatWinds x = new HatWinds();
        int[] winds = {0, 3, 4, 33, 200};
        int[] gusts = {0, 3, 5, 42, 260};
        for (int at = 0; at < winds.length; at++) {
            x.wind(winds[at]);
            Due.is("a gust by " + winds[at], x.now(0, 1), gusts[at]);
        }
    }

    private static void hats() {
        HatWinds x = Town.of("1*99");
        x.set(HatWinds.GUST, 0);
        int[] winds = {19, 20, 21, 23, 24, 28, 200};
        int[] lost = {0, 0, 1, 1, 2, 3, 46};
        for (int at = 0; at < winds.length; at++) {
            x.wind(winds[at]);
            Due.is("hats by " + winds[at], x.now(0, 4), lost[at]);
        }
        x.change(0, 2, 46);
        Due.is("all hats", x.now(0, 4), 46);
        x.change(0, 2, 45);
        Due.is("no more than there are", x.now(0, 4), 45);
        x.change(0, 2, 0);
        Due.is("no people, no hats", x.now(0, 4), 0);
    }

    private static void nowRefuses() {
        HatWinds x = new HatWinds();
        int[] whats = {-1, 5, FAR, LOW};
        for (int what : whats) {
            Due.is("now(0, " + what + ")", x.now(0, what), HatWinds.BAD_VALUE);
        }
    }

    private static void records() {
        HatWinds x = Town.of("1*99");
        for (int hour = 1; hour <= 10; hour++) {
            x.wind(10 * hour);
            x.pass(1);
        }
        for (int rank = 0; rank < 8; rank++) {
            int force = 10 * (10 - rank);
            int above = force + force * 30 / 100 - 20;
            Due.is("record(" + rank + ", 0)", x.record(rank, 0), force);
            Due.is("record(" + rank + ", 1)", x.record(rank, 1), above / 4 + 1);
            Due.is("record(" + rank + ", 2)", x.record(rank, 2), 0);
        }
        int[] ranks = {-1, 8, FAR, LOW};
        for (int rank : ranks) {
            Due.is("record(" + rank + ", 0)", x.record(rank, 0), HatWinds.NO_SUCH);
            Due.is("record(" + rank + ", 3)", x.record(rank, 3), HatWinds.NO_SUCH);
        }
        int[] whats = {-1, 3, FAR, LOW};
        for (int what : whats) {
            Due.is("record(0, " + what + ")", x.record(0, what), HatWinds.BAD_VALUE);
        }
        HatWinds y = new HatWinds();
        y.pass(1);
        Due.is("one record", y.record(0, 0), 0);
        Due.is("not two", y.record(1, 0), HatWinds.NO_SUCH);
    }

    private static void signs() {
        HatWinds x = new HatWinds();
        Due.is("sign(0) of nothing", x.sign(0), HatWinds.NO_SUCH);
        Town.put(x, "!~a");
        Due.is("sign(0)", x.sign(0), 33);
        Due.is("sign(1)", x.sign(1), 126);
        Due.is("sign(2)", x.sign(2), 'a');
        int[] places = {-1, 3, 80, FAR, LOW};
        for (int place : places) {
            Due.is("sign(" + place + ")", x.sign(place), HatWinds.NO_SUCH);
        }
        x.wipe();
        Due.is("sign(0) after wipe", x.sign(0), HatWinds.NO_SUCH);
    }

    private static void counts() {
        HatWinds x = Town.of("9*30(1*5,2a*9,6(1,1*40))");
        x.wind(100);
        x.pass(3);
        // Forces 100, 11, 27, 76, 38, 38; gusts 130, 14, 35, 98, 49, 49.
        int[] want = {6, 100, 3, 3 * 40, 84, 40, 2 + 8 + 16, 1, 8, 20, 30, 12, 0, 3};
        for (int what = 0; what < want.length; what++) {
            Due.is("count(" + what + ")", x.count(what), want[what]);
        }
        x.wind(0);
        Due.is("all shelter without wind", x.count(6), 63);
        Due.is("the lowest of those with the least force", x.count(7), 0);
        int[] whats = {-1, 14, FAR, LOW};
        for (int what : whats) {
            Due.is("count(" + what + ")", x.count(what), HatWinds.BAD_VALUE);
        }
        Town.put(x, "abc");
        Due.is("count(12)", x.count(12), 3);
        for (int change = 0; change < 9; change++) {
            x.wind(change);
        }
        Due.is("count(13)", x.count(13), 6);
    }
}
