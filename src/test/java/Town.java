/** Short ways for tests to make towns and to look at them. */
final class Town {
    private Town() {
    }

    static long packed(String text) {
        long characters = 0;
        for (int place = 0; place < text.length(); place++) {
            characters = (characters << 8) | text.charAt(place);
        }
        return characters;
    }

    static void put(HatWinds x, String text) {
        for (int from = 0; from < text.length(); from += 8) {
            x.put(packed(text.substring(from, Math.min(text.length(), from + 8))));
        }
    }

    static HatWinds of(String text) {
        HatWinds x = new HatWinds();
        put(x, text);
        Due.is("build() of " + text, x.build(), text.replaceAll("\\*[0-9]+|[^0-9]", "").length());
        return x;
    }

    static String pad(HatWinds x) {
        StringBuilder text = new StringBuilder();
        int sign = x.sign(0);
        for (int place = 1; sign >= 0; place++) {
            text.append((char) sign);
            sign = x.sign(place);
        }
        return text.toString();
    }

    static void padIs(HatWinds x, String want) {
        Due.same("the pad", pad(x), want);
    }

    /** All that a town answers, but for the pad, the history and the slots. */
    static String look(HatWinds x) {
        StringBuilder seen = new StringBuilder();
        for (int what = 0; what <= 11; what++) {
            seen.append(x.count(what)).append(' ');
        }
        for (int street = 0; x.of(street, 1) >= 0; street++) {
            seen.append('|');
            for (int what = 0; what <= 7; what++) {
                seen.append(x.of(street, what)).append(' ');
            }
            for (int what = 0; what <= 4; what++) {
                seen.append(x.now(street, what)).append(' ');
            }
        }
        for (int rank = 0; x.record(rank, 0) >= 0; rank++) {
            seen.append('#');
            for (int what = 0; what <= 2; what++) {
                seen.append(x.record(rank, what)).append(' ');
            }
        }
        return seen.toString();
    }

    static void looksLike(String when, HatWinds x, String want) {
        Due.same(when, look(x), want);
    }
}
