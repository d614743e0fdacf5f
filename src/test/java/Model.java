import java.util.ArrayDeque;
import java.util.ArrayList;
import java.util.Deque;
import java.util.List;

/** A second reading of the document, written another way, with the Java library and without care for memory. */
final class Model {
    private static final int NO_SUCH = -1, BAD_VALUE = -2, BAD_TEXT = -3, TOO_MANY = -4, NOT_POSSIBLE = -5, NONE = -6;
    private static final int[][] RANGES = {{1, 20}, {1, 60}, {0, 100}, {1, 30}};

    private static final class Street {
        int number;
        Street parent;
        final List<Street> branches = new ArrayList<>();
        int width, cloth, smoke, people;

        Street branch(List<Street> all, int itsWidth) {
            Street come = new Street();
            come.number = all.size();
            come.width = itsWidth;
            come.parent = this;
            branches.add(come);
            all.add(come);
            return come;
        }

        int behind() {
            int sum = 0;
            for (Street branch : branches) {
                sum += 1 + branch.behind();
            }
            return sum;
        }

        String text() {
            StringBuilder text = new StringBuilder().append(width);
            text.append(cloth == 0 ? "" : "" + "-abcde".charAt(cloth)).append(smoke == 1 ? "!" : "");
            text.append(people == 0 ? "" : "*" + people);
            for (int at = 0; at < branches.size(); at++) {
                text.append(at == 0 ? "(" : ",").append(branches.get(at).text());
            }
            return text.append(branches.isEmpty() ? "" : ")").toString();
        }
    }

    private static final class State {
        int[] settings = {8, 20, 30, 12};
        List<Street> streets = new ArrayList<>();
        int top = 0, hours = 0, lost = 0;
        List<int[]> records = new ArrayList<>();

        State copy() {
            State other = new State();
            other.settings = settings.clone();
            for (Street street : streets) {
                Street twin = street.parent == null ? new Street()
                    : other.streets.get(street.parent.number).branch(other.streets, street.width);
                if (street.parent == null) {
                    other.streets.add(twin);
                }
                twin.width = street.width;
                twin.cloth = street.cloth;
                twin.smoke = street.smoke;
                twin.people = street.people;
            }
            other.top = top;
            other.hours = hours;
            other.lost = lost;
            other.records = new ArrayList<>(records);
            return other;
        }
    }

    /** Thrown where a text can't go on. */
    private static final class Stuck extends Exception {
        private static final long serialVersionUID = 1;
    }

    private State state = new State();
    private final Deque<State> history = new ArrayDeque<>();
    private final State[] slots = new State[2];
    private String pad = "";
    private List<Street> readStreets = new ArrayList<>();
    private int at = 0;

    Model() {
        Street first = new Street();
        first.width = 1;
        state.streets.add(first);
    }

    private Street at(int street) {
        return street < 0 || street >= state.streets.size() ? null : state.streets.get(street);
    }

    private void changes() {
        history.addLast(state.copy());
        if (history.size() > 6) {
            history.removeFirst();
        }
    }

    private static int force(Street street, int top, Street gone) {
        if (street.parent == null) {
            return top;
        }
        int into = force(street.parent, top, gone);
        int all = street.parent.branches.stream().filter(each -> each != gone).mapToInt(each -> each.width).sum();
        long less = street.parent.branches.stream().filter(each -> each != gone && each.width < street.width).count();
        return (int) Math.min(into, Math.floorDiv(into * street.width, all) + 5 * less);
    }

    private int gust(Street street, int top) {
        int force = force(street, top, null);
        return force + Math.floorDiv(force * state.settings[2], 100);
    }

    private int hats(Street street, int top) {
        int gust = gust(street, top);
        return gust > state.settings[1] ? Math.min((gust - state.settings[1]) / 4 + 1, street.people) : 0;
    }

    private int hats(int top) {
        return state.streets.stream().mapToInt(each -> hats(each, top)).sum();
    }

    private int flag(Street street, int top) {
        return Math.min(force(street, top, null) / (state.settings[0] * street.cloth), 12);
    }

    int set(int setting, int value) {
        if (setting < 0 || setting > 3 || value < RANGES[setting][0] || value > RANGES[setting][1]) {
            return BAD_VALUE;
        }
        changes();
        int previous = state.settings[setting];
        state.settings[setting] = value;
        return previous;
    }

    int build() {
        if (fault() != NONE) {
            return BAD_TEXT;
        }
        changes();
        state.streets = readStreets;
        pad = "";
        return state.streets.size();
    }

    int street(int from, int width) {
        if (at(from) == null) {
            return NO_SUCH;
        }
        if (width < 1 || width > 9) {
            return BAD_VALUE;
        }
        if (state.streets.size() == 20 || at(from).branches.size() == 4) {
            return TOO_MANY;
        }
        changes();
        return at(from).branch(state.streets, width).number;
    }

    int change(int street, int what, int value) {
        Street it = at(street);
        if (it == null) {
            return NO_SUCH;
        }
        if (what < 0 || what > 3 || value < (what == 3 ? 1 : 0) || value > new int[] {5, 1, 99, 9}[what]) {
            return BAD_VALUE;
        }
        changes();
        int previous = what == 0 ? it.cloth : what == 1 ? it.smoke : what == 2 ? it.people : it.width;
        it.cloth = what == 0 ? value : it.cloth;
        it.smoke = what == 1 ? value : it.smoke;
        it.people = what == 2 ? value : it.people;
        it.width = what == 3 ? value : it.width;
        return previous;
    }

    int wind(int force) {
        if (force < 0 || force > 200) {
            return BAD_VALUE;
        }
        changes();
        int previous = state.top;
        state.top = force;
        return previous;
    }

    int pass(int hours) {
        if (hours < 1 || hours > 24) {
            return BAD_VALUE;
        }
        if (hours + state.hours > 999) {
            return NOT_POSSIBLE;
        }
        changes();
        int sum = 0;
        for (int hour = 0; hour < hours; hour++) {
            int lost = hats(state.top);
            Street worst = null;
            for (Street street : state.streets) {
                int most = worst == null ? 0 : hats(worst, state.top);
                worst = hats(street, state.top) > most ? street : worst;
            }
            state.records.add(0, new int[] {state.top, lost, worst == null ? NONE : worst.number});
            state.hours++;
            state.lost += lost;
            sum += lost;
        }
        while (state.records.size() > 8) {
            state.records.remove(8);
        }
        return sum;
    }

    int write() {
        String text = at(0).text();
        if (text.length() > 80) {
            return TOO_MANY;
        }
        pad = text;
        return pad.length();
    }

    int of(int street, int what) {
        Street it = at(street);
        if (it == null) {
            return NO_SUCH;
        }
        int far = 0;
        for (Street up = it; up.parent != null; up = up.parent) {
            far++;
        }
        int set = it.branches.stream().mapToInt(each -> 1 << each.number).sum();
        int from = it.parent == null ? NONE : it.parent.number;
        int[] answers = {from, it.width, it.cloth, it.smoke, it.people, set, it.behind(), far};
        return what < 0 || what >= answers.length ? BAD_VALUE : answers[what];
    }

    int now(int street, int what) {
        Street it = at(street);
        if (it == null) {
            return NO_SUCH;
        }
        int force = force(it, state.top, null);
        int flag = it.cloth == 0 ? NONE : flag(it, state.top);
        int lean = it.smoke == 0 ? NONE : Math.min(9, force / state.settings[3]);
        int[] answers = {force, gust(it, state.top), flag, lean, hats(it, state.top)};
        return what < 0 || what >= answers.length ? BAD_VALUE : answers[what];
    }

    int record(int rank, int what) {
        if (rank < 0 || rank >= state.records.size()) {
            return NO_SUCH;
        }
        return what < 0 || what > 2 ? BAD_VALUE : state.records.get(rank)[what];
    }

    int sign(int place) {
        return place < 0 || place >= pad.length() ? NO_SUCH : pad.charAt(place);
    }

    int count(int what) {
        int people = 0, shelters = 0;
        Street calmest = at(0);
        for (Street street : state.streets) {
            people += street.people;
            shelters += hats(street, state.top) == 0 ? 1 << street.number : 0;
            calmest = force(street, state.top, null) < force(calmest, state.top, null) ? street : calmest;
        }
        int[] s = state.settings;
        int[] answers = {
            state.streets.size(), state.top, state.hours, state.lost, people, hats(state.top), shelters, calmest.number,
            s[0], s[1], s[2], s[3], pad.length(), history.size()
        };
        return what < 0 || what >= answers.length ? BAD_VALUE : answers[what];
    }

    int ifWind(int force) {
        return force < 0 || force > 200 ? BAD_VALUE : hats(force);
    }

    int windFor(int hats) {
        if (hats < 1 || hats > 999) {
            return BAD_VALUE;
        }
        for (int force = 0; force <= 200; force++) {
            if (hats(force) >= hats) {
                return force;
            }
        }
        return NONE;
    }

    int windOfFlag(int street, int steps) {
        if (at(street) == null) {
            return NO_SUCH;
        }
        if (steps < 1 || steps > 12) {
            return BAD_VALUE;
        }
        if (at(street).cloth == 0) {
            return NOT_POSSIBLE;
        }
        for (int force = 0; force <= 200; force++) {
            if (flag(at(street), force) >= steps) {
                return force;
            }
        }
        return NONE;
    }

    int without(int street, int other) {
        Street it = at(street), gone = at(other);
        if (it == null || gone == null) {
            return NO_SUCH;
        }
        if (it == gone || it.parent != gone.parent) {
            return NOT_POSSIBLE;
        }
        return force(it, state.top, gone) - force(it, state.top, null) + 500;
    }

    int windiest() {
        return state.streets.stream().filter(each -> each.branches.isEmpty())
            .reduce((one, two) -> force(two, state.top, null) > force(one, state.top, null) ? two : one).get().number;
    }

    int put(long characters) {
        StringBuilder text = new StringBuilder();
        for (int part = 0; part < 8; part++) {
            text.append((char) (characters >>> (56 - 8 * part) & 0xFF));
        }
        String signs = text.toString().replaceFirst("^\0*", "");
        if (!signs.matches("[!-~]+")) {
            return BAD_VALUE;
        }
        if (pad.length() + signs.length() > 80) {
            return TOO_MANY;
        }
        pad += signs;
        return pad.length();
    }

    int wipe() {
        int previous = pad.length();
        pad = "";
        return previous;
    }

    int fault() {
        readStreets = new ArrayList<>();
        at = 0;
        try {
            readStreet(null);
            return at < pad.length() ? at : NONE;
        } catch (Stuck stuck) {
            return at;
        }
    }

    private boolean stands(String oneOf) {
        return at < pad.length() && oneOf.indexOf(pad.charAt(at)) >= 0;
    }

    private char taken(String oneOf) throws Stuck {
        if (!stands(oneOf)) {
            throw new Stuck();
        }
        return pad.charAt(at++);
    }

    private void readStreet(Street parent) throws Stuck {
        if (readStreets.size() == 20 || parent != null && parent.branches.size() == 4) {
            throw new Stuck();
        }
        int width = taken("123456789") - '0';
        Street it = new Street();
        if (parent == null) {
            it.width = width;
            readStreets.add(it);
        } else {
            it = parent.branch(readStreets, width);
        }
        it.cloth = stands("abcde") ? taken("abcde") - 'a' + 1 : 0;
        it.smoke = stands("!") ? taken("!") - '!' + 1 : 0;
        if (stands("*")) {
            taken("*");
            it.people = taken("0123456789") - '0';
            it.people = it.people > 0 && stands("0123456789") ? it.people * 10 + taken("0123456789") - '0' : it.people;
        }
        if (stands("(")) {
            do {
                taken("(,");
                readStreet(it);
            } while (stands(","));
            taken(")");
        }
    }

    int undo() {
        if (history.isEmpty()) {
            return NOT_POSSIBLE;
        }
        state = history.removeLast();
        return history.size();
    }

    int save(int slot) {
        if (slot < 0 || slot > 1) {
            return BAD_VALUE;
        }
        slots[slot] = state.copy();
        return state.streets.size();
    }

    int restore(int slot) {
        if (slot < 0 || slot > 1) {
            return BAD_VALUE;
        }
        if (slots[slot] == null) {
            return NOT_POSSIBLE;
        }
        changes();
        state = slots[slot].copy();
        return state.streets.size();
    }
}
