import java.util.List;

/** Each sentence of the promises 22 to 24 that names a boundary case; the sentence stands above its test. */
final class StatesEdgesTest {
    private static final int FAR = Integer.MAX_VALUE, LOW = Integer.MIN_VALUE;

    public static void main(String[] args) {
        undoErrors();
        sixStates();
        recordsOfTheHistory();
        undoLeaves();
        saveErrors();
        saveOverwrites();
        restoreErrors();
        restoreKeeps();
        longestRun();
        Due.end("StatesEdgesTest");
    }

    // 22: "NOT_POSSIBLE if there is none"
    private static void undoErrors() {
        Edge.unchanged("undo() of nothing", StatesEdgesTest::undone, HatWinds::undo, HatWinds.NOT_POSSIBLE);
        Due.is("undo() of the only one", once().undo(), 0);
        HatWinds x = undone();
        x.wind(1);
        Due.is("undo() after a new change", x.undo(), 0);
        Due.is("undo() of no more", x.undo(), HatWinds.NOT_POSSIBLE);
    }

    private static HatWinds once() {
        HatWinds x = new HatWinds();
        x.wind(50);
        return x;
    }

    private static HatWinds undone() {
        HatWinds x = Edge.lively();
        for (int left = 5; left >= 0; left--) {
            Due.is("undo() to " + left, x.undo(), left);
        }
        return x;
    }

    // 22: "A history of at most 6 states is kept .. when one more is recorded, the oldest one is dropped."
    private static void sixStates() {
        for (int changes = 0; changes <= 14; changes++) {
            HatWinds x = new HatWinds();
            for (int change = 1; change <= changes; change++) {
                Due.is("wind(" + change + ")", x.wind(change), change - 1);
                Due.is("count(13) after " + change, x.count(13), Math.min(6, change));
            }
            int kept = Math.min(6, changes);
            for (int left = kept - 1; left >= 0; left--) {
                Due.is("undo() of " + changes, x.undo(), left);
                Due.is("the wind then", x.count(1), changes - kept + left);
                Due.is("count(13) then", x.count(13), left);
            }
            Due.is("undo() of no more than 6", x.undo(), HatWinds.NOT_POSSIBLE);
            Due.is("the wind stays", x.count(1), changes - kept);
        }
    }

    // 22: "each method that is a change, and returns no error, records the state before it (also if nothing is different
    // then)"
    private static void recordsOfTheHistory() {
        List<Edge.Call> same = List.of(x -> x.set(HatWinds.HOLD, 20), HatWinds::build, x -> x.change(0, 0, 1), x -> x.wind(0),
            x -> x.restore(0));
        for (int at = 0; at < same.size(); at++) {
            HatWinds x = Town.of("1a");
            x.save(0);
            Town.put(x, "1a");
            String before = Town.look(x);
            Due.is("it goes, " + at, same.get(at).on(x) >= 0 ? 1 : 0, 1);
            Due.same("nothing is different, " + at, Town.look(x), before);
            Due.is("it is recorded, " + at, x.count(13), 2);
            Due.is("it is undone, " + at, x.undo(), 1);
            Due.same("as before, " + at, Town.look(x), before);
            Due.is("the one before it is undone, " + at, x.undo(), 0);
            Due.is("no flag before that, " + at, x.of(0, 2), 0);
        }
    }

    // 22: "everything except the pad, the slots and the history is as it was before it"
    private static void undoLeaves() {
        HatWinds x = Edge.lively();
        x.wipe();
        Town.put(x, "4(5d*7)");
        String before = Town.look(x);
        Due.is("build()", x.build(), 2);
        Due.is("save(0) of what was built", x.save(0), 2);
        Town.put(x, "9(9");
        Due.is("undo() of build()", x.undo(), 5);
        Due.same("as before build()", Town.look(x), before);
        Town.padIs(x, "9(9");
        Due.is("the slot keeps what was built", x.restore(0), 2);
        Due.is("undo() of pass()", Edge.aged(20).undo(), 2);
        HatWinds y = Edge.aged(24);
        y.pass(1);
        y.undo();
        Due.is("the hours of before", y.count(2), 24);
        Due.is("the hats of before", y.count(3), 72);
        Due.is("the records of before", y.record(7, 1), 3);
    }

    // 23: "slot: 0 or 1 .. Returns how many streets there are; BAD_VALUE if there is no such slot."
    private static void saveErrors() {
        Edge.range("save", Edge::lively, HatWinds::save, 0, 1, HatWinds.BAD_VALUE);
        Due.is("save(0) of one street", new HatWinds().save(0), 1);
        Due.is("save(1) of twenty", Edge.full().save(1), 20);
        HatWinds x = Edge.lively();
        x.save(0);
        Due.is("it is no change", x.count(13), Edge.lively().count(13));
        HatWinds y = new HatWinds();
        y.save(0);
        Due.is("it is not undone", y.undo(), HatWinds.NOT_POSSIBLE);
    }

    // 23: "Saves everything except the pad, the history and the slots in a slot, and overwrites what was saved there."
    private static void saveOverwrites() {
        for (int slot = 0; slot < 2; slot++) {
            HatWinds x = Edge.full();
            x.wind(200);
            x.pass(24);
            x.save(slot);
            x.save(1 - slot);
            x.put('1');
            x.build();
            Due.is("save over it", x.save(slot), 1);
            Town.put(x, "5(6)");
            x.wind(3);
            Due.is("restore of what was saved last", x.restore(slot), 1);
            Due.is("the wind of it", x.count(1), 200);
            Town.padIs(x, "5(6)");
            Due.is("the other slot stays", x.restore(1 - slot), 20);
            Due.is("no street is left over", x.restore(slot), 1);
            Due.is("no second", x.of(1, 0), HatWinds.NO_SUCH);
            Due.is("six can be undone", x.count(13), 6);
        }
    }

    // 24: "BAD_VALUE if there is no such slot; NOT_POSSIBLE if nothing was saved in it."
    private static void restoreErrors() {
        Edge.refusedAt("restore", Edge::lively, HatWinds::restore, HatWinds.BAD_VALUE, -1, 2, FAR, LOW);
        Edge.refusedAt("restore", HatWinds::new, HatWinds::restore, HatWinds.BAD_VALUE, -1, 2, FAR, LOW);
        Edge.refusedAt("restore", Edge::lively, HatWinds::restore, HatWinds.NOT_POSSIBLE, 0);
        Edge.refusedAt("restore", HatWinds::new, HatWinds::restore, HatWinds.NOT_POSSIBLE, 0, 1);
        HatWinds x = new HatWinds();
        x.save(0);
        Due.is("nothing in the other one", x.restore(1), HatWinds.NOT_POSSIBLE);
        Due.is("something in this one", x.restore(0), 1);
        HatWinds y = new HatWinds();
        y.save(2);
        y.save(-1);
        Due.is("nothing is saved by a refused one", y.restore(0), HatWinds.NOT_POSSIBLE);
        Due.is("nor there", y.restore(1), HatWinds.NOT_POSSIBLE);
    }

    // 24: "Restores what was saved last in a slot, which keeps it. This is a change."
    private static void restoreKeeps() {
        HatWinds x = Edge.lively();
        x.save(0);
        for (int time = 0; time < 3; time++) {
            x.put(')');
            x.build();
            x.wind(200);
            x.pass(24);
            x.set(HatWinds.GUST, time);
            Due.is("restore(0)", x.restore(0), 6);
            Town.put(x, "1(2");
        }
        Due.same("what was saved", Town.look(x), Town.look(Edge.lively()));
        HatWinds y = Edge.lively();
        y.save(0);
        y.put(')');
        y.build();
        String before = Town.look(y);
        Due.is("restore(0) after build()", y.restore(0), 6);
        Due.is("six can be undone", y.count(13), 6);
        Due.is("undo() of it", y.undo(), 5);
        Due.same("as before restore(0)", Town.look(y), before);
        Due.is("restore(0) again", y.restore(0), 6);
    }

    // "An object is used for at most 512 calls after it has been made"
    private static void longestRun() {
        HatWinds x = new HatWinds();
        for (int call = 1; call <= 509; call++) {
            Due.is("call " + call, x.set(HatWinds.GUST, call % 101), call == 1 ? 30 : (call - 1) % 101);
        }
        Due.is("call 510", x.count(13), 6);
        Due.is("call 511", x.undo(), 5);
        Due.is("call 512", x.count(10), 508 % 101);
    }
}
