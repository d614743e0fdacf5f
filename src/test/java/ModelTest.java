import java.util.Map;
import java.util.Random;
import java.util.TreeMap;

/** Runs of 512 calls, drawn with fixed seeds, answered by HatWinds and by the model. */
final class ModelTest {
    private static final int RUNS = 600, CALLS = 512, MOST_CALLS_OF_FILL = 30;
    private static final String[] NAMES = {
        "set", "build", "street", "change", "wind", "pass", "write", "of", "now", "record", "sign", "count",
        "ifWind", "windFor", "windOfFlag", "without", "windiest", "put", "wipe", "fault", "undo", "save", "restore"
    };
    /** What the document names for each: at least one call in all runs has to answer it. */
    private static final String[] ERRORS = {
        "set -2", "build -3", "street -1", "street -2", "street -4", "change -1", "change -2", "wind -2", "pass -2", "pass -5",
        "write -4", "of -1", "of -2", "of -6", "now -1", "now -2", "now -6", "record -1", "record -2", "record -6", "sign -1",
        "count -2", "ifWind -2", "windFor -2", "windFor -6", "windOfFlag -1", "windOfFlag -2", "windOfFlag -5", "windOfFlag -6",
        "without -1", "without -5", "put -2", "put -4", "fault -6", "undo -5", "save -2", "restore -2", "restore -5"
    };
    private static final String SIGNS = "1234567890abcdefg!*(),,((1123456789~A";

    private final Random random;
    private final HatWinds x = new HatWinds();
    private final Model model = new Model();
    private final Map<String, Integer> seen;
    private final int mood;
    private String told = "";
    private int calls = 0;

    private ModelTest(long seed, Map<String, Integer> seen) {
        random = new Random(seed);
        mood = (int) (seed % 4);
        this.seen = seen;
    }

    public static void main(String[] args) {
        Map<String, Integer> seen = new TreeMap<>();
        for (long seed = 0; seed < RUNS; seed++) {
            new ModelTest(seed, seen).run(seed);
        }
        for (String name : NAMES) {
            Due.is(name + " succeeds sometimes", seen.containsKey(name + " +") ? 1 : 0, 1);
        }
        for (String error : ERRORS) {
            Due.is("'" + error + "' is answered sometimes", seen.containsKey(error) ? 1 : 0, 1);
        }
        Due.end("ModelTest");
    }

    private void run(long seed) {
        while (calls < CALLS - MOST_CALLS_OF_FILL) {
            int kind = kind();
            int[] answers = answers(kind);
            calls++;
            Due.is("seed " + seed + ", call " + calls + ", " + told, answers[0], answers[1]);
            seen.merge(NAMES[kind] + (answers[0] < 0 ? " " + answers[0] : " +"), 1, Integer::sum);
            if (answers[0] != answers[1]) {
                return;
            }
        }
    }

    private int kind() {
        // In one of the moods hours pass, without undo, until there are too many; in another many streets come.
        if (mood == 1) {
            return random.nextInt(4) == 0 ? 5 : random.nextInt(20);
        }
        if (mood == 2 && random.nextInt(4) == 0) {
            return random.nextBoolean() ? 2 : 3;
        }
        return random.nextInt(NAMES.length);
    }

    /** Mostly from least to most, sometimes just beside, seldom far off. */
    private int draw(int least, int most) {
        int how = random.nextInt(24);
        if (how == 0) {
            return least - 1;
        }
        if (how == 1) {
            return most + 1;
        }
        if (how == 2) {
            return random.nextInt(3) == 0 ? random.nextInt() : random.nextInt(300) - 100;
        }
        if (how == 3) {
            return random.nextBoolean() ? least : most;
        }
        return least + random.nextInt(most - least + 1);
    }

    private int drawStreet() {
        return draw(0, model.count(0) - 1);
    }

    private int[] told(String call, int got, int want) {
        told = call;
        return new int[] {got, want};
    }

    private int[] answers(int kind) {
        return kind < 7 ? changed(kind) : kind < 12 ? looked(kind) : kind < 17 ? whatIf(kind) : kept(kind);
    }

    private int[] changed(int kind) {
        int a = draw(0, 3), b;
        switch (kind) {
            case 0:
                b = random.nextInt(3) == 0 ? draw(0, 100) : draw(1, 20);
                return told("set(" + a + ", " + b + ")", x.set(a, b), model.set(a, b));
            case 1:
                if (random.nextInt(4) > 0) {
                    fill(random.nextInt(8) > 0);
                }
                return told("build()", x.build(), model.build());
            case 2:
                a = drawStreet();
                b = draw(1, 9);
                return told("street(" + a + ", " + b + ")", x.street(a, b), model.street(a, b));
            case 3:
                int s = drawStreet();
                b = a == 2 ? draw(0, 99) : a == 3 ? draw(1, 9) : draw(0, a == 0 ? 5 : 1);
                return told("change(" + s + ", " + a + ", " + b + ")", x.change(s, a, b), model.change(s, a, b));
            case 4:
                a = draw(0, 200);
                return told("wind(" + a + ")", x.wind(a), model.wind(a));
            case 5:
                a = draw(1, 24);
                return told("pass(" + a + ")", x.pass(a), model.pass(a));
            default:
                return told("write()", x.write(), model.write());
        }
    }

    private int[] looked(int kind) {
        int a = drawStreet(), b;
        switch (kind) {
            case 7:
                b = draw(0, 7);
                return told("of(" + a + ", " + b + ")", x.of(a, b), model.of(a, b));
            case 8:
                b = draw(0, 4);
                return told("now(" + a + ", " + b + ")", x.now(a, b), model.now(a, b));
            case 9:
                a = draw(0, 7);
                b = draw(0, 2);
                return told("record(" + a + ", " + b + ")", x.record(a, b), model.record(a, b));
            case 10:
                a = draw(0, Math.max(0, model.count(12) - 1));
                return told("sign(" + a + ")", x.sign(a), model.sign(a));
            default:
                a = draw(0, 13);
                return told("count(" + a + ")", x.count(a), model.count(a));
        }
    }

    private int[] whatIf(int kind) {
        int a = drawStreet(), b;
        switch (kind) {
            case 12:
                a = draw(0, 200);
                return told("ifWind(" + a + ")", x.ifWind(a), model.ifWind(a));
            case 13:
                a = random.nextInt(8) == 0 ? draw(1, 999) : draw(1, 100);
                return told("windFor(" + a + ")", x.windFor(a), model.windFor(a));
            case 14:
                b = random.nextBoolean() ? draw(1, 12) : draw(1, 3);
                return told("windOfFlag(" + a + ", " + b + ")", x.windOfFlag(a, b), model.windOfFlag(a, b));
            case 15:
                b = drawStreet();
                return told("without(" + a + ", " + b + ")", x.without(a, b), model.without(a, b));
            default:
                return told("windiest()", x.windiest(), model.windiest());
        }
    }

    private int[] kept(int kind) {
        int a = draw(0, 1);
        switch (kind) {
            case 17:
                if (random.nextInt(3) == 0) {
                    return fill(random.nextBoolean());
                }
                long signs = drawSigns();
                return told("put(" + signs + ")", x.put(signs), model.put(signs));
            case 18:
                return told("wipe()", x.wipe(), model.wipe());
            case 19:
                return told("fault()", x.fault(), model.fault());
            case 20:
                return told("undo()", x.undo(), model.undo());
            case 21:
                return told("save(" + a + ")", x.save(a), model.save(a));
            default:
                return told("restore(" + a + ")", x.restore(a), model.restore(a));
        }
    }

    private long drawSigns() {
        long signs = 0;
        int length = 1 + random.nextInt(8);
        for (int place = 0; place < length; place++) {
            signs = signs << 8 | SIGNS.charAt(random.nextInt(SIGNS.length()));
        }
        int how = random.nextInt(12);
        return how == 0 ? random.nextLong() : how == 1 ? signs & random.nextLong() : how == 2 ? signs << 8 : signs;
    }

    /** Puts streets into the pad of both, one sign of them wrong if they shall not be right. */
    private int[] fill(boolean right) {
        String text = drawText(1 + random.nextInt(22), 0);
        if (!right) {
            int place = random.nextInt(text.length());
            char other = SIGNS.charAt(random.nextInt(SIGNS.length()));
            text = text.substring(0, place) + (random.nextBoolean() ? "" + other : "") + text.substring(place + random.nextInt(2));
        }
        x.wipe();
        model.wipe();
        calls++;
        int got = 0, want = 0;
        for (int from = 0; from < text.length(); from += 8) {
            long part = Town.packed(text.substring(from, Math.min(text.length(), from + 8)));
            calls++;
            got = x.put(part);
            want = model.put(part);
        }
        return told("put of '" + text + "'", got, want);
    }

    private String drawText(int streets, int depth) {
        StringBuilder text = new StringBuilder().append(1 + random.nextInt(9));
        text.append(random.nextInt(3) == 0 ? "" + "abcde".charAt(random.nextInt(5)) : "").append(random.nextInt(4) == 0 ? "!" : "");
        text.append(random.nextInt(3) == 0 ? "*" + random.nextInt(100) : "");
        int rest = streets - 1;
        int branches = Math.min(rest, 1 + random.nextInt(random.nextInt(6) == 0 ? 5 : 4));
        for (int branch = 0; branch < branches; branch++) {
            int part = branch == branches - 1 ? rest : 1 + random.nextInt(rest - (branches - 1 - branch));
            rest -= part;
            text.append(branch == 0 ? "(" : ",").append(drawText(part, depth + 1));
        }
        return text.append(branches > 0 ? ")" : "").toString();
    }
}
