import java.util.function.Supplier;

/** Each sentence of the texts and of the promises 19 to 21 that names a boundary case; the sentence stands above its test. */
final class TextsEdgesTest {
    private static final String TWENTY = "1(1(1,1,1,1),1(1,1,1,1),1(1,1,1,1),1(1,1,1";

    public static void main(String[] args) {
        putErrors();
        putCodes();
        putOfEachLength();
        putToEighty();
        wipes();
        widthOfText();
        widthOfTheTopOne();
        flagOfText();
        peopleOfText();
        fourOfText();
        twentyOfText();
        endsTooEarly();
        faultOfOther();
        Due.end("TextsEdgesTest");
    }

    private static HatWinds filled(int length) {
        HatWinds x = Edge.lively();
        x.wipe();
        Town.put(x, "1".repeat(length));
        Due.is("the pad is filled", x.count(12), length);
        return x;
    }

    private static void refused(Supplier<HatWinds> made, int error, long... characters) {
        for (long each : characters) {
            Edge.unchanged("put(" + Long.toHexString(each) + ")", made, x -> x.put(each), error);
        }
    }

    // 19: "BAD_VALUE if there is no character, a code is not 33 to 126, or a bit above 8 bits that are 0 is not 0; TOO_MANY
    // if the pad would be longer than 80."
    private static void putErrors() {
        for (int length : new int[] {0, 6, 79, 80}) {
            refused(() -> filled(length), HatWinds.BAD_VALUE, 0, 32, 127, 0x100, 0x4100, 0x410041, 0x2041, 0x4120, -1, Long.MIN_VALUE,
                0x4100414141414141L, 0x0100000000000041L, 0x3100313131313131L);
        }
        refused(() -> filled(80), HatWinds.TOO_MANY, '!', '~', 0x3131, 0x3131313131313131L);
        refused(() -> filled(79), HatWinds.TOO_MANY, 0x3131, 0x3131313131313131L);
        refused(() -> filled(73), HatWinds.TOO_MANY, 0x3131313131313131L);
    }

    // 19: "a code is not 33 to 126", at each of the eight places
    private static void putCodes() {
        for (int place = 0; place < 8; place++) {
            int shift = 8 * place;
            long others = 0x4141414141414141L & ~(255L << shift);
            for (int code : new int[] {33, 126}) {
                HatWinds x = new HatWinds();
                Due.is("put of " + code + " at " + place, x.put(others | (long) code << shift), 8);
                Due.is("the sign of it", x.sign(7 - place), code);
            }
            for (int code : new int[] {32, 127, 128, 255, 1}) {
                refused(HatWinds::new, HatWinds.BAD_VALUE, others | (long) code << shift);
            }
            if (place < 7) {
                // Above these 8 bits that are 0 there are bits that are not.
                refused(HatWinds::new, HatWinds.BAD_VALUE, others, others & 0xFF000000000000FFL, 1L << 63 | 0x41L << shift);
            } else {
                Due.is("put of seven", new HatWinds().put(others), 7);
            }
        }
    }

    // 19: "characters: 1 to 8 characters .. its lowest 8 bits are the last character, the next 8 bits the one before"
    private static void putOfEachLength() {
        String text = "!abc(*1~";
        for (int length = 1; length <= 8; length++) {
            HatWinds x = new HatWinds();
            Due.is("put of " + length, x.put(Town.packed(text.substring(0, length))), length);
            Town.padIs(x, text.substring(0, length));
            Due.is("none behind it", x.sign(length), HatWinds.NO_SUCH);
            Due.is("put of " + length + " behind that", x.put(Town.packed(text.substring(0, length))), 2 * length);
            Town.padIs(x, text.substring(0, length).repeat(2));
        }
    }

    // "The pad is a text of at most 80 characters"; 19: "Returns the length of the pad then"
    private static void putToEighty() {
        for (int last = 1; last <= 8; last++) {
            HatWinds x = filled(80 - last);
            Due.is("the last " + last, x.put(Town.packed("23456789".substring(0, last))), 80);
            Due.is("the length", x.count(12), 80);
            Town.padIs(x, "1".repeat(80 - last) + "23456789".substring(0, last));
            Due.is("one more", x.put('1'), HatWinds.TOO_MANY);
            HatWinds y = filled(81 - last);
            Due.is("one too many of " + last, y.put(Town.packed("23456789".substring(0, last))), HatWinds.TOO_MANY);
            Town.padIs(y, "1".repeat(81 - last));
        }
    }

    // 20: "Empties the pad, and returns the length that it had."
    private static void wipes() {
        for (int length : new int[] {0, 1, 79, 80}) {
            HatWinds x = filled(length);
            int undos = x.count(13);
            Due.is("wipe() of " + length, x.wipe(), length);
            Due.is("the length then", x.count(12), 0);
            Due.is("no sign", x.sign(0), HatWinds.NO_SUCH);
            Due.is("the fault then", x.fault(), 0);
            Due.is("wipe() again", x.wipe(), 0);
            Due.is("it is no change", x.count(13), undos);
            Due.is("put() then", x.put('1'), 1);
        }
    }

    private static void faultIs(String text, int want) {
        Supplier<HatWinds> made = () -> {
            HatWinds x = new HatWinds();
            Town.put(x, text);
            return x;
        };
        Due.is("fault() of '" + text + "'", made.get().fault(), want);
        int built = made.get().build();
        Due.is("build() of '" + text + "' goes", built == HatWinds.BAD_TEXT ? 0 : 1, want == HatWinds.NONE ? 1 : 0);
    }

    /** Of all signs that can be put, just these can stand behind the text. */
    private static void canStandBehind(String text, String signs) {
        for (char sign = 33; sign <= 126; sign++) {
            HatWinds x = new HatWinds();
            Town.put(x, text + sign);
            boolean stands = x.fault() != text.length();
            Due.is("'" + sign + "' stands behind '" + text + "'", stands ? 1 : 0, signs.indexOf(sign) >= 0 ? 1 : 0);
        }
    }

    // "width = 1 to 9"
    private static void widthOfText() {
        String widths = "123456789";
        canStandBehindWithEnd("", widths);
        canStandBehindWithEnd("1(", widths);
        canStandBehindWithEnd("1(2,", widths);
        for (int width = 1; width <= 9; width++) {
            faultIs("" + width, HatWinds.NONE);
            faultIs("1(" + width + ")", HatWinds.NONE);
            faultIs("1(2," + width + ")", HatWinds.NONE);
        }
    }

    /** As canStandBehind, for a text that is itself too short, so that its length is the fault for another reason too. */
    private static void canStandBehindWithEnd(String text, String signs) {
        for (char sign = 33; sign <= 126; sign++) {
            HatWinds x = new HatWinds();
            Town.put(x, text + sign);
            int whole = text.isEmpty() ? HatWinds.NONE : text.length() + 1;
            Due.is("fault() of '" + text + sign + "'", x.fault(), signs.indexOf(sign) >= 0 ? whole : text.length());
        }
    }

    // "The street that is told first is the top one (its width does not matter)"
    private static void widthOfTheTopOne() {
        for (int width = 1; width <= 9; width++) {
            HatWinds x = Town.of(width + "(3,5)");
            x.wind(100);
            int[] want = {100, 37, 67};
            for (int street = 0; street < want.length; street++) {
                Due.is("force of " + street + " by a top of " + width, x.now(street, 0), want[street]);
            }
            Due.is("it is told all the same", x.of(0, 1), width);
        }
    }

    // "A letter is a flag of the cloth 1 to 5; '!' is smoke": each at its place, and once
    private static void flagOfText() {
        canStandBehind("1", "abcde!*(");
        canStandBehind("1a", "!*(");
        canStandBehind("1!", "*(");
        canStandBehind("1e!", "*(");
        canStandBehind("1(2", "abcde!*(,)");
        canStandBehind("1(2a", "!*(,)");
        canStandBehind("1(2!", "*(,)");
        canStandBehind("1(2(3)", ",)");
        canStandBehind("1(2)", "");
        for (int cloth = 1; cloth <= 5; cloth++) {
            HatWinds x = Town.of("1(2" + (char) ('a' + cloth - 1) + ")");
            Due.is("the cloth that is told", x.of(1, 2), cloth);
            Due.is("no smoke is told", x.of(1, 3), 0);
            Due.is("no flag is told of the other", x.of(0, 2), 0);
        }
        Due.is("smoke that is told", Town.of("1!").of(0, 3), 1);
    }

    // "behind '*' stand the people (none without), a number 0 to 99 without leading zeros"
    private static void peopleOfText() {
        for (int many = 0; many <= 99; many++) {
            HatWinds x = Town.of("1(2*" + many + ")");
            Due.is("people that are told", x.of(1, 4), many);
        }
        Due.is("people that are not told", Town.of("1a!").of(0, 4), 0);
        canStandBehindWithEnd("1(2*", "0123456789");
        canStandBehind("1*0", "(");
        canStandBehind("1*1", "0123456789(");
        canStandBehind("1*9", "0123456789(");
        canStandBehind("1*10", "(");
        canStandBehind("1*99", "(");
        canStandBehind("1(2*0", "(,)");
        canStandBehind("1(2*9", "0123456789(,)");
        canStandBehind("1(2*99", "(,)");
        faultIs("1*00", 3);
        faultIs("1*05", 3);
        faultIs("1*100", 4);
    }

    // "in brackets stand the streets that branch off it, at most 4"; "(also of a width by which there would be .. a fifth
    // that branches off one)"
    private static void fourOfText() {
        faultIs("1(1)", HatWinds.NONE);
        faultIs("1(1,1,1,1)", HatWinds.NONE);
        faultIs("1(1,1,1,1,1)", 10);
        faultIs("1(1,1,1,1,", 10);
        faultIs("1(1,1,1,1,x", 10);
        faultIs("1(1(1,1,1,1),1,1,1)", HatWinds.NONE);
        faultIs("1(1(1,1,1,1,1),1,1,1)", 12);
        faultIs("1(1,1,1,1(1,1,1,1))", HatWinds.NONE);
        faultIs("1(1(1),1(1),1(1),1(1),1(1))", 22);
        faultIs("1()", 2);
    }

    // "There are at most 20 streets."; "(also of a width by which there would be a 21st street ..)"
    private static void twentyOfText() {
        faultIs(TWENTY + "))", HatWinds.NONE);
        faultIs(TWENTY.substring(0, TWENTY.length() - 2) + "))", HatWinds.NONE);
        faultIs(TWENTY + ",1))", TWENTY.length() + 1);
        faultIs(TWENTY + "(1)))", TWENTY.length() + 1);
        faultIs(TWENTY + "a!*99(1)))", TWENTY.length() + 6);
        String chain = "1(".repeat(19) + "1";
        faultIs(chain + ")".repeat(19), HatWinds.NONE);
        faultIs("1(" + chain + ")".repeat(20), 2 * 20);
        faultIs("1(".repeat(40), 2 * 20);
        Due.is("twenty streets in a row", Town.of(chain + ")".repeat(19)).of(19, 7), 19);
    }

    // "if there is none and the text ends too early (also if it is empty), it is the length of the text"
    private static void endsTooEarly() {
        String[] texts = {"", "1(", "1*", "1a!*", "1(2", "1(2a", "1(2!", "1(2*", "1(2*0", "1(2*99", "1(2,", "1(2(3)", "1(2(3", "1(2(3),4"};
        for (String text : texts) {
            faultIs(text, text.length());
        }
        String eighty = "1a!*10(".repeat(9) + "1a!*10,1" + ")".repeat(9);
        faultIs(eighty, HatWinds.NONE);
        faultIs(eighty.substring(0, 79), 79);
        faultIs(eighty.substring(0, 78) + "(1", 78);
        faultIs("1a!*10(".repeat(10) + "1a!*10(1(2", 80);
        faultIs(eighty.substring(0, 79) + "~", 79);
    }

    // 21: "Returns the fault of the pad, NONE if there is none."; "the index of the first character that cannot stand at its
    // place when the text is read from left to right"
    private static void faultOfOther() {
        faultIs("1", HatWinds.NONE);
        faultIs("1xx", 1);
        faultIs("x", 0);
        faultIs("1)2(", 1);
        faultIs("~".repeat(80), 0);
        faultIs("1".repeat(80), 1);
        Edge.unchanged("fault() of a right text", TextsEdgesTest::right, HatWinds::fault, HatWinds.NONE);
        Edge.unchanged("fault() of a wrong text", () -> filled(80), HatWinds::fault, 1);
    }

    private static HatWinds right() {
        HatWinds x = Edge.lively();
        x.put(')');
        return x;
    }
}
