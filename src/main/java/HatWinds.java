/** Wind told by flags, smoke and hats lost in an hour, in streets that branch into streets. */
public final class HatWinds {
    public static final int NO_SUCH = -1, BAD_VALUE = -2, BAD_TEXT = -3, TOO_MANY = -4, NOT_POSSIBLE = -5, NONE = -6;
    public static final int STEP = 0, HOLD = 1, GUST = 2, LEAN = 3;

    private static final int MOST_STREETS = 20;
    private static final int MOST_BRANCHES = 4;
    private static final int MOST_WIDTH = 9;
    private static final int MOST_FORCE = 200;
    private static final int MORE_BY_NARROWER = 5;
    private static final int MOST_FLAG_STEPS = 12;
    private static final int MOST_SMOKE_STEPS = 9;
    private static final int HATS_DIVISOR = 4;
    private static final int MOST_HATS_ASKED = 999;
    private static final int MOST_HOURS_AT_ONCE = 24;
    private static final int MOST_HOURS = 999;
    private static final int KEPT_HOURS = 8;
    private static final int MOST_SIGNS = 80;
    private static final int SIGNS_AT_ONCE = 8;
    private static final int LEAST_SIGN = 33;
    private static final int MOST_SIGN = 126;
    private static final int KEPT_STATES = 6;
    private static final int SLOTS = 2;
    private static final int WITHOUT_OFFSET = 500;

    private static final int[] FIRST_SETTINGS = {8, 20, 30, 12};
    private static final int[] LEAST_SETTINGS = {1, 1, 0, 1};
    private static final int[] MOST_SETTINGS = {20, 60, 100, 30};

    // In the order in which change() numbers them: cloth, smoke, people, width.
    private static final int[] LEAST_OF_STREET = {0, 0, 0, 1};
    private static final int[] MOST_OF_STREET = {5, 1, 99, MOST_WIDTH};

    private final Town town = new Town();
    private final Air air = new Air();
    private final History history = new History();
    private final Town[] slots = new Town[SLOTS];
    private final boolean[] filled = new boolean[SLOTS];
    private final Pad pad = new Pad();
    private final Pad draft = new Pad();
    private final Reader reader = new Reader();

    public HatWinds() {
        for (int slot = 0; slot < SLOTS; slot++) {
            slots[slot] = new Town();
        }
    }

    // ---- changes

    public int set(int setting, int value) {
        if (!isIndexOf(setting, FIRST_SETTINGS.length)) {
            return BAD_VALUE;
        }
        if (!isWithin(value, LEAST_SETTINGS[setting], MOST_SETTINGS[setting])) {
            return BAD_VALUE;
        }
        history.keep(town);
        int previous = town.settings[setting];
        town.settings[setting] = value;
        return previous;
    }

    public int build() {
        if (reader.read(pad) != NONE) {
            return BAD_TEXT;
        }
        history.keep(town);
        town.streets.copy(reader.streets);
        pad.clear();
        return town.streets.number;
    }

    public int street(int from, int width) {
        if (!town.streets.has(from)) {
            return NO_SUCH;
        }
        if (!isWithin(width, 1, MOST_WIDTH)) {
            return BAD_VALUE;
        }
        if (!town.streets.hasRoomOff(from)) {
            return TOO_MANY;
        }
        history.keep(town);
        return town.streets.add(from, width);
    }

    public int change(int street, int what, int value) {
        if (!town.streets.has(street)) {
            return NO_SUCH;
        }
        if (!isIndexOf(what, LEAST_OF_STREET.length)) {
            return BAD_VALUE;
        }
        if (!isWithin(value, LEAST_OF_STREET[what], MOST_OF_STREET[what])) {
            return BAD_VALUE;
        }
        history.keep(town);
        int[] row = town.streets.changeable(what);
        int previous = row[street];
        row[street] = value;
        return previous;
    }

    public int wind(int force) {
        if (!isForce(force)) {
            return BAD_VALUE;
        }
        history.keep(town);
        int previous = town.force;
        town.force = force;
        return previous;
    }

    public int pass(int hours) {
        if (!isWithin(hours, 1, MOST_HOURS_AT_ONCE)) {
            return BAD_VALUE;
        }
        if (town.hours.passed + hours > MOST_HOURS) {
            return NOT_POSSIBLE;
        }
        history.keep(town);
        air.blowIn(town);
        int lost = air.hatsLost(town);
        int worst = air.worstStreet(town);
        for (int hour = 0; hour < hours; hour++) {
            town.hours.add(town.force, lost, worst);
        }
        return hours * lost;
    }

    public int write() {
        draft.clear();
        tell(town.streets, 0, 0, draft);
        // The draft keeps the pad as it is when the text turns out too long.
        if (draft.overflowed) {
            return TOO_MANY;
        }
        pad.copy(draft);
        return pad.length;
    }

    // ---- what there is

    public int of(int street, int what) {
        Streets streets = town.streets;
        if (!streets.has(street)) {
            return NO_SUCH;
        }
        switch (what) {
            case 0: return streets.from[street];
            case 1: return streets.width[street];
            case 2: return streets.cloth[street];
            case 3: return streets.smoke[street];
            case 4: return streets.people[street];
            case 5: return streets.branchesOff(street);
            case 6: return streets.howManyBehind(street);
            case 7: return streets.howFarOff(street);
            default: return BAD_VALUE;
        }
    }

    public int now(int street, int what) {
        if (!town.streets.has(street)) {
            return NO_SUCH;
        }
        air.blowIn(town);
        switch (what) {
            case 0: return air.force[street];
            case 1: return air.gustIn(town, street);
            case 2: return air.flagSteps(town, street);
            case 3: return air.smokeSteps(town, street);
            case 4: return air.hatsLostIn(town, street);
            default: return BAD_VALUE;
        }
    }

    public int record(int rank, int what) {
        Hours hours = town.hours;
        if (!isIndexOf(rank, hours.kept())) {
            return NO_SUCH;
        }
        switch (what) {
            case 0: return hours.forces[rank];
            case 1: return hours.lost[rank];
            case 2: return hours.worst[rank];
            default: return BAD_VALUE;
        }
    }

    public int sign(int place) {
        return isIndexOf(place, pad.length) ? pad.signs[place] : NO_SUCH;
    }

    public int count(int what) {
        switch (what) {
            case 0: return town.streets.number;
            case 1: return town.force;
            case 2: return town.hours.passed;
            case 3: return town.hours.lostSoFar;
            case 4: return town.streets.peopleOfAll();
            case 5: return hatsBy(town.force);
            case 6: return shelters();
            case 7: return calmest();
            case 8: return town.settings[STEP];
            case 9: return town.settings[HOLD];
            case 10: return town.settings[GUST];
            case 11: return town.settings[LEAN];
            case 12: return pad.length;
            case 13: return history.length;
            default: return BAD_VALUE;
        }
    }

    // ---- what if; nothing changes

    public int ifWind(int force) {
        return isForce(force) ? hatsBy(force) : BAD_VALUE;
    }

    public int windFor(int hats) {
        if (!isWithin(hats, 1, MOST_HATS_ASKED)) {
            return BAD_VALUE;
        }
        air.part(town.streets, NONE);
        for (int force = 0; force <= MOST_FORCE; force++) {
            air.blow(town.streets, force);
            if (air.hatsLost(town) >= hats) {
                return force;
            }
        }
        return NONE;
    }

    public int windOfFlag(int street, int steps) {
        if (!town.streets.has(street)) {
            return NO_SUCH;
        }
        if (!isWithin(steps, 1, MOST_FLAG_STEPS)) {
            return BAD_VALUE;
        }
        if (town.streets.cloth[street] == 0) {
            return NOT_POSSIBLE;
        }
        air.part(town.streets, NONE);
        for (int force = 0; force <= MOST_FORCE; force++) {
            air.blow(town.streets, force);
            if (air.flagSteps(town, street) >= steps) {
                return force;
            }
        }
        return NONE;
    }

    public int without(int street, int other) {
        Streets streets = town.streets;
        if (!streets.has(street) || !streets.has(other)) {
            return NO_SUCH;
        }
        if (street == other || streets.from[street] != streets.from[other]) {
            return NOT_POSSIBLE;
        }
        air.blowIn(town);
        int before = air.force[street];
        air.part(streets, other);
        air.blow(streets, town.force);
        return air.force[street] - before + WITHOUT_OFFSET;
    }

    public int windiest() {
        air.blowIn(town);
        int found = NONE;
        for (int street = 0; street < town.streets.number; street++) {
            boolean isEnd = town.streets.branchesOff(street) == 0;
            if (isEnd && (found == NONE || air.force[street] > air.force[found])) {
                found = street;
            }
        }
        return found;
    }

    // ---- texts

    public int put(long characters) {
        int signs = signsIn(characters);
        if (signs == 0) {
            return BAD_VALUE;
        }
        if (pad.length + signs > MOST_SIGNS) {
            return TOO_MANY;
        }
        for (int place = signs - 1; place >= 0; place--) {
            pad.add((int) ((characters >>> (8 * place)) & 255));
        }
        return pad.length;
    }

    public int wipe() {
        int previous = pad.length;
        pad.clear();
        return previous;
    }

    public int fault() {
        return reader.read(pad);
    }

    // ---- undo, saving

    public int undo() {
        if (history.length == 0) {
            return NOT_POSSIBLE;
        }
        history.takeBack(town);
        return history.length;
    }

    public int save(int slot) {
        if (!isIndexOf(slot, SLOTS)) {
            return BAD_VALUE;
        }
        slots[slot].copy(town);
        filled[slot] = true;
        return town.streets.number;
    }

    public int restore(int slot) {
        if (!isIndexOf(slot, SLOTS)) {
            return BAD_VALUE;
        }
        if (!filled[slot]) {
            return NOT_POSSIBLE;
        }
        history.keep(town);
        town.copy(slots[slot]);
        return town.streets.number;
    }

    private int hatsBy(int force) {
        air.part(town.streets, NONE);
        air.blow(town.streets, force);
        return air.hatsLost(town);
    }

    private int shelters() {
        air.blowIn(town);
        int set = 0;
        for (int street = 0; street < town.streets.number; street++) {
            if (air.hatsLostIn(town, street) == 0) {
                set |= 1 << street;
            }
        }
        return set;
    }

    private int calmest() {
        air.blowIn(town);
        int found = 0;
        for (int street = 1; street < town.streets.number; street++) {
            if (air.force[street] < air.force[found]) {
                found = street;
            }
        }
        return found;
    }

    private static boolean isWithin(int value, int least, int most) {
        return value >= least && value <= most;
    }

    private static boolean isIndexOf(int value, int length) {
        return value >= 0 && value < length;
    }

    private static boolean isForce(int value) {
        return isWithin(value, 0, MOST_FORCE);
    }

    /** Nothing here divides by 0; the test is for the machine. */
    private static int quotient(int number, int divisor) {
        return divisor > 0 ? number / divisor : 0;
    }

    /** How many signs the number holds; 0 also if it holds anything that is none. */
    private static int signsIn(long characters) {
        long rest = characters;
        int signs = 0;
        for (int place = 0; place < SIGNS_AT_ONCE && (rest & 255) != 0; place++) {
            if (!isWithin((int) (rest & 255), LEAST_SIGN, MOST_SIGN)) {
                return 0;
            }
            rest >>>= 8;
            signs++;
        }
        return rest == 0 ? signs : 0;
    }

    private static void tell(Streets streets, int street, int depth, Pad into) {
        // Each level is a street more, so nothing that stands goes deeper.
        if (depth >= MOST_STREETS || !streets.has(street)) {
            return;
        }
        tellAlone(streets, street, into);
        boolean isOpen = false;
        for (int branch = street + 1; branch < streets.number; branch++) {
            if (streets.from[branch] == street) {
                into.add(isOpen ? ',' : '(');
                isOpen = true;
                tell(streets, branch, depth + 1, into);
            }
        }
        if (isOpen) {
            into.add(')');
        }
    }

    private static void tellAlone(Streets streets, int street, Pad into) {
        into.add('0' + streets.width[street]);
        if (streets.cloth[street] > 0) {
            into.add('a' + streets.cloth[street] - 1);
        }
        if (streets.smoke[street] > 0) {
            into.add('!');
        }
        int people = streets.people[street];
        if (people > 0) {
            into.add('*');
            if (people >= 10) {
                into.add('0' + people / 10);
            }
            into.add('0' + people % 10);
        }
    }

    /** Streets, of which each stands behind the one off which it branches: walks upwards meet that one first. */
    private static final class Streets {
        final int[] from = new int[MOST_STREETS];
        final int[] width = new int[MOST_STREETS];
        final int[] cloth = new int[MOST_STREETS];
        final int[] smoke = new int[MOST_STREETS];
        final int[] people = new int[MOST_STREETS];
        int number = 0;

        void copy(Streets other) {
            copyRow(other.from, from);
            copyRow(other.width, width);
            copyRow(other.cloth, cloth);
            copyRow(other.smoke, smoke);
            copyRow(other.people, people);
            number = other.number;
        }

        void clear() {
            number = 0;
        }

        boolean has(int street) {
            return isIndexOf(street, number);
        }

        boolean hasRoomOff(int street) {
            return number < MOST_STREETS && Integer.bitCount(branchesOff(street)) < MOST_BRANCHES;
        }

        int add(int parent, int itsWidth) {
            if (number >= MOST_STREETS) {
                return TOO_MANY;
            }
            from[number] = parent;
            width[number] = itsWidth;
            cloth[number] = 0;
            smoke[number] = 0;
            people[number] = 0;
            number++;
            return number - 1;
        }

        int[] changeable(int what) {
            switch (what) {
                case 0: return cloth;
                case 1: return smoke;
                case 2: return people;
                default: return width;
            }
        }

        int branchesOff(int street) {
            int set = 0;
            for (int branch = 0; branch < number; branch++) {
                if (from[branch] == street) {
                    set |= 1 << branch;
                }
            }
            return set;
        }

        int howManyBehind(int street) {
            int set = 1 << street;
            for (int branch = street + 1; branch < number; branch++) {
                if ((set & (1 << from[branch])) != 0) {
                    set |= 1 << branch;
                }
            }
            return Integer.bitCount(set) - 1;
        }

        int howFarOff(int street) {
            int far = 0;
            for (int at = from[street]; has(at) && far < MOST_STREETS; at = from[at]) {
                far++;
            }
            return far;
        }

        int peopleOfAll() {
            int all = 0;
            for (int street = 0; street < number; street++) {
                all += people[street];
            }
            return all;
        }
    }

    /** The hours so far; of the latest ones also the records, the latest first. */
    private static final class Hours {
        final int[] forces = new int[KEPT_HOURS];
        final int[] lost = new int[KEPT_HOURS];
        final int[] worst = new int[KEPT_HOURS];
        int passed = 0;
        int lostSoFar = 0;

        void copy(Hours other) {
            copyRow(other.forces, forces);
            copyRow(other.lost, lost);
            copyRow(other.worst, worst);
            passed = other.passed;
            lostSoFar = other.lostSoFar;
        }

        int kept() {
            return Math.min(passed, KEPT_HOURS);
        }

        void add(int force, int hats, int street) {
            pushFirst(forces, force);
            pushFirst(lost, hats);
            pushFirst(worst, street);
            passed++;
            lostSoFar += hats;
        }

        private static void pushFirst(int[] row, int value) {
            for (int place = row.length - 1; place > 0; place--) {
                row[place] = row[place - 1];
            }
            row[0] = value;
        }
    }

    /** All that undo brings back and a slot keeps. */
    private static final class Town {
        final int[] settings = FIRST_SETTINGS.clone();
        final Streets streets = new Streets();
        final Hours hours = new Hours();
        int force = 0;

        Town() {
            streets.add(NONE, 1);
        }

        void copy(Town other) {
            copyRow(other.settings, settings);
            streets.copy(other.streets);
            hours.copy(other.hours);
            force = other.force;
        }
    }

    /** What a wind does in the streets of a town. */
    private static final class Air {
        final int[] together = new int[MOST_STREETS];
        final int[] narrower = new int[MOST_STREETS];
        final int[] force = new int[MOST_STREETS];

        void blowIn(Town town) {
            part(town.streets, NONE);
            blow(town.streets, town.force);
        }

        /** Apart from blow(), so that many winds can be tried with one look at the widths. */
        void part(Streets streets, int missing) {
            for (int street = 0; street < streets.number; street++) {
                together[street] = 0;
                narrower[street] = 0;
                for (int other = 0; other < streets.number; other++) {
                    if (other != missing && streets.from[other] == streets.from[street]) {
                        together[street] += streets.width[other];
                        narrower[street] += streets.width[other] < streets.width[street] ? 1 : 0;
                    }
                }
            }
        }

        void blow(Streets streets, int top) {
            for (int street = 0; street < streets.number; street++) {
                int parent = streets.from[street];
                force[street] = streets.has(parent) ? shareOf(streets, street, force[parent]) : top;
            }
        }

        private int shareOf(Streets streets, int street, int whole) {
            int share = quotient(whole * streets.width[street], together[street]);
            return Math.min(whole, share + MORE_BY_NARROWER * narrower[street]);
        }

        int gustIn(Town town, int street) {
            return force[street] + force[street] * town.settings[GUST] / 100;
        }

        int flagSteps(Town town, int street) {
            int cloth = town.streets.cloth[street];
            if (cloth == 0) {
                return NONE;
            }
            return Math.min(MOST_FLAG_STEPS, quotient(force[street], town.settings[STEP] * cloth));
        }

        int smokeSteps(Town town, int street) {
            if (town.streets.smoke[street] == 0) {
                return NONE;
            }
            return Math.min(MOST_SMOKE_STEPS, quotient(force[street], town.settings[LEAN]));
        }

        int hatsLostIn(Town town, int street) {
            int above = gustIn(town, street) - town.settings[HOLD];
            if (above <= 0) {
                return 0;
            }
            return Math.min(town.streets.people[street], above / HATS_DIVISOR + 1);
        }

        int hatsLost(Town town) {
            int all = 0;
            for (int street = 0; street < town.streets.number; street++) {
                all += hatsLostIn(town, street);
            }
            return all;
        }

        int worstStreet(Town town) {
            int found = NONE;
            int most = 0;
            for (int street = 0; street < town.streets.number; street++) {
                int hats = hatsLostIn(town, street);
                if (hats > most) {
                    most = hats;
                    found = street;
                }
            }
            return found;
        }
    }

    /** The latest states, in a ring. */
    private static final class History {
        final Town[] states = new Town[KEPT_STATES];
        int oldest = 0;
        int length = 0;

        History() {
            for (int place = 0; place < KEPT_STATES; place++) {
                states[place] = new Town();
            }
        }

        void keep(Town town) {
            if (length == KEPT_STATES) {
                oldest = (oldest + 1) % KEPT_STATES;
                length--;
            }
            states[(oldest + length) % KEPT_STATES].copy(town);
            length++;
        }

        void takeBack(Town town) {
            if (length > 0) {
                length--;
                town.copy(states[(oldest + length) % KEPT_STATES]);
            }
        }
    }

    /** A text of few signs. */
    private static final class Pad {
        final char[] signs = new char[MOST_SIGNS];
        int length = 0;
        boolean overflowed = false;

        void clear() {
            length = 0;
            overflowed = false;
        }

        void add(int code) {
            if (length >= MOST_SIGNS) {
                overflowed = true;
                return;
            }
            signs[length] = (char) code;
            length++;
        }

        void copy(Pad other) {
            System.arraycopy(other.signs, 0, signs, 0, MOST_SIGNS);
            length = other.length;
            overflowed = other.overflowed;
        }
    }

    /** Reads streets from a text, sign by sign. */
    private static final class Reader {
        // What was read last; behind the first two of these a street is not whole yet.
        private static final int NOTHING = 0, STAR = 1, WIDTH = 2, FLAG = 3, SMOKE = 4, DIGIT = 5, PEOPLE = 6, BRACKET = 7;

        final Streets streets = new Streets();
        int last = NOTHING;
        /** The street in whose brackets the next one stands. */
        int parent = NONE;

        int read(Pad pad) {
            streets.clear();
            last = NOTHING;
            parent = NONE;
            for (int place = 0; place < pad.length; place++) {
                if (!takes(pad.signs[place])) {
                    return place;
                }
            }
            return last >= WIDTH && parent == NONE ? NONE : pad.length;
        }

        private boolean takes(int sign) {
            int street = streets.number - 1;
            if (last == NOTHING || street < 0) {
                return takesWidth(sign);
            }
            if (last == STAR) {
                return takesFirstDigit(street, sign);
            }
            switch (sign) {
                case '!': return takesSmoke(street);
                case '*': return takesStar();
                case '(': return opens(street);
                case ',': return goesOn();
                case ')': return closes();
                default: return isDigit(sign) ? takesSecondDigit(street, sign) : takesFlag(street, sign);
            }
        }

        private boolean takesWidth(int sign) {
            if (!isWithin(sign, '1', '9') || !streets.hasRoomOff(parent)) {
                return false;
            }
            streets.add(parent, sign - '0');
            last = WIDTH;
            return true;
        }

        private boolean takesFlag(int street, int sign) {
            if (last != WIDTH || !isWithin(sign, 'a', 'e')) {
                return false;
            }
            streets.cloth[street] = sign - 'a' + 1;
            last = FLAG;
            return true;
        }

        private boolean takesSmoke(int street) {
            if (!isWithin(last, WIDTH, FLAG)) {
                return false;
            }
            streets.smoke[street] = 1;
            last = SMOKE;
            return true;
        }

        private boolean takesStar() {
            if (!isWithin(last, WIDTH, SMOKE)) {
                return false;
            }
            last = STAR;
            return true;
        }

        private boolean takesFirstDigit(int street, int sign) {
            if (!isDigit(sign)) {
                return false;
            }
            streets.people[street] = sign - '0';
            // Behind a 0 no digit can stand, as the 0 would be a leading one.
            last = sign == '0' ? PEOPLE : DIGIT;
            return true;
        }

        private boolean takesSecondDigit(int street, int sign) {
            if (last != DIGIT) {
                return false;
            }
            streets.people[street] = 10 * streets.people[street] + sign - '0';
            last = PEOPLE;
            return true;
        }

        private boolean opens(int street) {
            if (!isWithin(last, WIDTH, PEOPLE)) {
                return false;
            }
            parent = street;
            last = NOTHING;
            return true;
        }

        private boolean goesOn() {
            if (!streets.has(parent)) {
                return false;
            }
            last = NOTHING;
            return true;
        }

        private boolean closes() {
            if (!streets.has(parent)) {
                return false;
            }
            parent = streets.from[parent];
            last = BRACKET;
            return true;
        }

        private static boolean isDigit(int sign) {
            return isWithin(sign, '0', '9');
        }
    }

    private static void copyRow(int[] source, int[] target) {
        System.arraycopy(source, 0, target, 0, Math.min(source.length, target.length));
    }
}
