/** Promises 22 to 24: undo, save, restore. */
final class StatesTest {
    private static final int FAR = Integer.MAX_VALUE, LOW = Integer.MIN_VALUE;

    public static void main(String[] args) {
        undoOfEach();
        undoOfMany();
        whatIsNoChange();
        refusedIsNoChange();
        undoLeavesThePad();
        undoLeavesTheSlots();
        save();
        restore();
        restoreIsUndone();
        Due.end("StatesTest");
    }

    private static HatWinds lively() {
        HatWinds x = Town.of("9a!*30(8b!(5,6c!*4),2*40)");
        x.wind(120);
        x.pass(5);
        x.save(1);
        return x;
    }

    private static void undoOfEach() {
        for (int kind = 0; kind < 7; kind++) {
            HatWinds x = lively();
            Town.put(x, "4(5d*7)");
            String before = Town.look(x);
            int made = kind == 0 ? x.set(HatWinds.GUST, 99) : kind == 1 ? x.build() : kind == 2 ? x.street(2, 7)
                : kind == 3 ? x.change(2, 2, 55) : kind == 4 ? x.wind(3) : kind == 5 ? x.pass(20) : x.restore(1);
            Due.is("change of kind " + kind + " goes", made >= 0 ? 1 : 0, 1);
            Due.is("count(13) after kind " + kind, x.count(13), 4);
            Due.is("undo() of kind " + kind, x.undo(), 3);
            Town.looksLike("after undo of kind " + kind, x, before);
        }
    }

    private static void undoOfMany() {
        HatWinds x = new HatWinds();
        for (int force = 1; force <= 20; force++) {
            x.wind(force);
            Due.is("count(13) after " + force, x.count(13), Math.min(force, 6));
        }
        for (int left = 5; left >= 0; left--) {
            Due.is("undo() to " + left, x.undo(), left);
            Due.is("the wind then", x.count(1), 14 + left);
        }
        Due.is("no more", x.undo(), HatWinds.NOT_POSSIBLE);
        Due.is("the wind is not changed", x.count(1), 14);
        x.wind(50);
        x.wind(60);
        Due.is("undo() after new changes", x.undo(), 1);
        x.wind(70);
        Due.is("undo() of a later one", x.undo(), 1);
        Due.is("the wind of before", x.count(1), 50);
        Due.is("undo() once more", x.undo(), 0);
        Due.is("the first wind", x.count(1), 14);
    }

    private static void whatIsNoChange() {
        HatWinds x = lively();
        x.write();
        x.of(0, 1);
        x.now(0, 1);
        x.record(0, 1);
        x.sign(0);
        x.count(5);
        x.put('a');
        x.fault();
        x.wipe();
        x.save(0);
        Due.is("none of these is a change", x.count(13), 3);
        x.undo();
        Due.is("and undo is none", x.count(13), 2);
    }

    private static void refusedIsNoChange() {
        HatWinds x = lively();
        String before = Town.look(x);
        x.set(9, 9);
        x.set(0, 0);
        x.build();
        x.street(9, 9);
        x.street(0, 0);
        x.change(0, 9, 9);
        x.change(9, 0, 0);
        x.wind(999);
        x.pass(99);
        x.restore(0);
        x.restore(9);
        Town.looksLike("after refused changes", x, before);
        Due.is("no change is counted", x.count(13), 3);
    }

    private static void undoLeavesThePad() {
        HatWinds x = new HatWinds();
        x.wind(5);
        Town.put(x, "123");
        x.undo();
        Town.padIs(x, "123");
    }

    private static void undoLeavesTheSlots() {
        HatWinds x = new HatWinds();
        x.wind(5);
        x.save(0);
        x.undo();
        Due.is("what was saved stays", x.restore(0), 1);
        Due.is("the wind that was saved", x.count(1), 5);
    }

    private static void save() {
        HatWinds x = lively();
        int[] slots = {-1, 2, FAR, LOW};
        for (int slot : slots) {
            Due.is("save(" + slot + ")", x.save(slot), HatWinds.BAD_VALUE);
            Due.is("restore(" + slot + ")", x.restore(slot), HatWinds.BAD_VALUE);
        }
        Due.is("save(0)", x.save(0), 5);
        x.street(0, 1);
        Due.is("save(1)", x.save(1), 6);
        String before = Town.look(x);
        Due.is("restore(0)", x.restore(0), 5);
        Due.is("restore(1)", x.restore(1), 6);
        Town.looksLike("restored from 1", x, before);
        x.street(0, 1);
        Due.is("save(0) over it", x.save(0), 7);
        x.undo();
        Due.is("restore(0) of what was saved last", x.restore(0), 7);
    }

    private static void restore() {
        HatWinds x = lively();
        String before = Town.look(x);
        x.save(0);
        x.set(HatWinds.STEP, 3);
        x.set(HatWinds.HOLD, 4);
        x.set(HatWinds.GUST, 5);
        x.set(HatWinds.LEAN, 6);
        Town.put(x, "3(3(3(3(3,3c!*99))))");
        x.build();
        x.wind(200);
        x.pass(24);
        Town.put(x, "789");
        Due.is("restore(0)", x.restore(0), 5);
        Town.looksLike("restored", x, before);
        Town.padIs(x, "789");
        Due.is("the history stays", x.count(13), 6);
        x.wind(1);
        x.change(1, 2, 9);
        Due.is("restore(0) again", x.restore(0), 5);
        Town.looksLike("the slot keeps it", x, before);
        HatWinds y = new HatWinds();
        y.save(0);
        Due.is("nothing in the other slot", y.restore(1), HatWinds.NOT_POSSIBLE);
        Due.is("it is no change", y.count(13), 0);
    }

    private static void restoreIsUndone() {
        HatWinds x = lively();
        x.save(0);
        x.wind(33);
        String before = Town.look(x);
        x.restore(0);
        Due.is("undo() of restore", x.undo(), 4);
        Town.looksLike("as before restore", x, before);
    }
}
