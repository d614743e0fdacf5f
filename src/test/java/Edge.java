import java.util.function.Supplier;

/** Looks at the ends of what is allowed, with a new object for each look, so that none comes near its 512th call. */
final class Edge {
    private static final int MOST_UNDONE = 6, SLOTS = 2;

    interface Call {
        int on(HatWinds x);
    }

    interface CallWith {
        int on(HatWinds x, int value);
    }

    private Edge() {
    }

    /** The call answers so, and everything is as if it had not been made: streets, pad, history and slots. */
    static void unchanged(String call, Supplier<HatWinds> made, Call it, int want) {
        Due.is(call, it.on(made.get()), want);
        Supplier<HatWinds> called = () -> {
            HatWinds x = made.get();
            it.on(x);
            return x;
        };
        String[] before = views(made), after = views(called);
        for (int at = 0; at < before.length; at++) {
            Due.same(call + " changes nothing, view " + at, after[at], before[at]);
        }
    }

    /** Both ends of a range are taken, and one beyond each of them is refused and changes nothing. */
    static void range(String call, Supplier<HatWinds> made, CallWith it, int least, int most, int error) {
        for (int value : new int[] {least, most}) {
            int got = it.on(made.get(), value);
            Due.is(call + " takes " + value + " (" + got + ")", got >= 0 || got == HatWinds.NONE ? 1 : 0, 1);
        }
        refusedAt(call, made, it, error, least - 1, most + 1, Integer.MIN_VALUE, Integer.MAX_VALUE);
    }

    static void refusedAt(String call, Supplier<HatWinds> made, CallWith it, int error, int... values) {
        for (int value : values) {
            unchanged(call + " with " + value, made, x -> it.on(x, value), error);
        }
    }

    /** Everything that can be told of an object, part by part. */
    private static String[] views(Supplier<HatWinds> made) {
        String[] views = new String[2 + MOST_UNDONE + SLOTS];
        views[0] = Town.look(made.get());
        HatWinds x = made.get();
        views[1] = Town.pad(x) + " " + x.count(12) + " " + x.fault() + " " + x.count(13);
        for (int undone = 1; undone <= MOST_UNDONE; undone++) {
            views[1 + undone] = undone(made.get(), undone);
        }
        for (int slot = 0; slot < SLOTS; slot++) {
            HatWinds y = made.get();
            views[2 + MOST_UNDONE + slot] = y.restore(slot) + " " + Town.look(y);
        }
        return views;
    }

    private static String undone(HatWinds x, int times) {
        StringBuilder seen = new StringBuilder();
        for (int time = 0; time < times; time++) {
            seen.append(x.undo()).append(' ');
        }
        return seen.append(Town.look(x)).toString();
    }

    /** Streets, records, a history of six and more, a slot that is filled and one that is not, and a text with a fault. */
    static HatWinds lively() {
        HatWinds x = Town.of("9a!*30(8b!(5,6c!*4),2*40)");
        x.wind(120);
        x.pass(5);
        x.save(1);
        x.set(HatWinds.LEAN, 10);
        x.street(2, 7);
        x.change(4, 0, 3);
        x.wind(90);
        x.pass(6);
        Town.put(x, "4(5d*7");
        return x;
    }

    /** Twenty streets; four branch off each of 0, 1, 6 and 11, and three off 16. */
    static HatWinds full() {
        return Town.of("1(1(1,1,1,1),1(1,1,1,1),1(1,1,1,1),1(1,1,1))");
    }

    /** A town of so many streets, one behind the other. */
    static HatWinds chain(int streets) {
        HatWinds x = new HatWinds();
        for (int street = 0; street + 1 < streets; street++) {
            Due.is("street(" + street + ", 1) of a chain", x.street(street, 1), street + 1);
        }
        return x;
    }

    /** A town that has so many hours behind it. */
    static HatWinds aged(int hours) {
        HatWinds x = Town.of("1*3");
        x.wind(30);
        for (int left = hours; left > 0; left -= 24) {
            x.pass(Math.min(24, left));
        }
        Due.is("hours behind it", x.count(2), hours);
        return x;
    }
}
