/** Promises 19 to 21: put, wipe, fault. */
final class TextsTest {
    public static void main(String[] args) {
        put();
        putRefuses();
        putFills();
        wipe();
        textAfterText();
        goodTexts();
        badTexts();
        fullTexts();
        Due.end("TextsTest");
    }

    private static void put() {
        HatWinds x = new HatWinds();
        Due.is("put of one", x.put('a'), 1);
        Due.is("put of two", x.put(('b' << 8) | 'c'), 3);
        Due.is("put of eight", x.put(Town.packed("!~345678")), 11);
        Town.padIs(x, "abc!~345678");
        Due.is("it is no change", x.count(13), 0);
    }

    private static void putRefuses() {
        HatWinds x = new HatWinds();
        long[] wrong = {
            0, -1, 32, 127, 128, 255, 0x4100, 0x410041, 0x4100000041L, 0x2041, 0x4120, 0x7F41, 0x417F,
            Long.MIN_VALUE, Long.MAX_VALUE, 0x4141414141414100L, 0xC141414141414141L, 0x4141414141414120L,
            0x4100414141414141L, 0x2041414141414141L, 0x0100000000000041L, 0x8000000000000041L, 0x1FFFFFFFFL
        };
        for (long characters : wrong) {
            Due.is("put(" + Long.toHexString(characters) + ")", x.put(characters), HatWinds.BAD_VALUE);
            Due.is("nothing is put", x.count(12), 0);
        }
        Due.is("the lowest sign", x.put(33), 1);
        Due.is("the highest sign", x.put(126), 2);
        Due.is("eight of the highest", x.put(0x7E7E7E7E7E7E7E7EL), 10);
    }

    private static void putFills() {
        HatWinds x = new HatWinds();
        for (int part = 1; part <= 9; part++) {
            Due.is("part " + part, x.put(Town.packed("abcdefgh")), 8 * part);
        }
        Due.is("to 79", x.put(Town.packed("ABCDEFG")), 79);
        Due.is("two more", x.put(Town.packed("HI")), HatWinds.TOO_MANY);
        Due.is("nothing is put", x.count(12), 79);
        Due.is("a wrong one is told first", x.put(0x4120), HatWinds.BAD_VALUE);
        Due.is("the last one", x.put('J'), 80);
        Due.is("one more", x.put('K'), HatWinds.TOO_MANY);
        Due.is("none more", x.put(0), HatWinds.BAD_VALUE);
        Due.is("the last sign", x.sign(79), 'J');
        Due.is("no sign behind it", x.sign(80), HatWinds.NO_SUCH);
    }

    private static void wipe() {
        HatWinds x = new HatWinds();
        Due.is("wipe() of nothing", x.wipe(), 0);
        Town.put(x, "12345");
        Due.is("wipe()", x.wipe(), 5);
        Due.is("nothing is left", x.count(12), 0);
        Due.is("wipe() again", x.wipe(), 0);
        Due.is("it is no change", x.count(13), 0);
    }

    private static void textAfterText() {
        HatWinds x = new HatWinds();
        Town.put(x, "9e!*99(8d!*88(7c!*77");
        Due.is("fault() in brackets", x.fault(), 20);
        x.wipe();
        Town.put(x, "1(2(3))");
        Due.is("fault() of the next text", x.fault(), HatWinds.NONE);
        Due.is("build() of the next text", x.build(), 3);
        for (int street = 0; street < 3; street++) {
            Due.is("its cloth", x.of(street, 2), 0);
            Due.is("its smoke", x.of(street, 3), 0);
            Due.is("its people", x.of(street, 4), 0);
        }
        Due.is("the first one is the top one", x.of(0, 0), HatWinds.NONE);
    }

    private static void faultIs(String text, int want) {
        HatWinds x = new HatWinds();
        Town.put(x, text);
        Due.is("fault() of '" + text + "'", x.fault(), want);
        Due.is("the pad stays", x.count(12), text.length());
        Due.is("build() of '" + text + "' goes", x.build() == HatWinds.BAD_TEXT ? 0 : 1, want == HatWinds.NONE ? 1 : 0);
    }

    private static void goodTexts() {
        String[] texts = {
            "1", "9", "1a", "1e", "1!", "1a!", "1*0", "1*1", "1*9", "1*10", "1*99", "1a!*5", "1!*5", "1a*5",
            "1(2)", "1a(2)", "1!(2)", "1*0(2)", "1*1(2)", "1*12(2)", "1(2,3,4,5)", "1(2(3(4(5))))", "1(2(3),4(5),6)",
            "1(2a!*30,3*0,4!,5e)", "1(1(1(1(1(1(1(1(1(1(1(1(1(1(1(1(1(1(1(1)))))))))))))))))))"
        };
        for (String text : texts) {
            faultIs(text, HatWinds.NONE);
        }
    }

    private static void badTexts() {
        faultIs("", 0);
        String[] atTheEnd = {"1*", "1a!*", "1(", "1(2", "1(2*", "1(2,", "1(2)x", "1(2,3", "1(2(3)", "1*5(", "1(2*0", "1(2a"};
        for (String text : atTheEnd) {
            faultIs(text, text.endsWith("x") ? 4 : text.length());
        }
        String[] atTheFirst = {"0", "a", "!", "*", "(", ")", ",", "x", "~"};
        for (String text : atTheFirst) {
            faultIs(text + "1", 0);
        }
        // Each of these is right but for its last sign.
        String[] atTheLast = {
            "12", "10", "1f", "1A", "1~", "1)", "1,", "1ab", "1aa", "1a1", "1a)", "1a,", "1!!", "1!a", "1!1", "1*a", "1*!", "1**",
            "1*(", "1*)", "1*,", "1*00", "1*01", "1*09", "1*100", "1*999", "1*1a", "1*1!", "1*1*", "1*12!", "1*12*", "1*0!", "1*0a", "1*5,", "1*5)",
            "1(0", "1()", "1(,", "1((", "1(a", "1(!", "1(*", "1(2,0", "1(2,,", "1(2,)", "1(2,(", "1(2,a", "1(2(3),)", "1(23",
            "1(2))", "1(2),", "1(2)(", "1(2)1", "1(2)a", "1(2)!", "1(2)*", "1(2(3)(", "1(2(3)4", "1(2(3)*", "1(2(3)a", "1(2(3)!",
            "1(2,3,4,5,6", "1(2(3,4,5,6,7", "1(2(3,4,5,6),7,8,9,1"
        };
        for (String text : atTheLast) {
            faultIs(text, text.length() - 1);
            faultIs(text + "1", text.length() - 1);
        }
    }

    private static void fullTexts() {
        String twenty = "1(1(1,1,1,1),1(1,1,1,1),1(1,1,1,1),1(1,1,1";
        faultIs(twenty + "))", HatWinds.NONE);
        faultIs(twenty + ",1))", twenty.length() + 1);
        faultIs(twenty + "(1)))", twenty.length() + 1);
        faultIs(twenty + "(", twenty.length() + 1);
        faultIs(twenty + ",", twenty.length() + 1);
        String eighty = "1a!*10(".repeat(9) + "1a!*10,1" + ")".repeat(9);
        faultIs(eighty, HatWinds.NONE);
        faultIs(eighty.substring(0, 79), 79);
        faultIs(eighty.substring(0, 79) + "(", 79);
    }
}
