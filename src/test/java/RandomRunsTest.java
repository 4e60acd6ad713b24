import java.util.Random;

/**
 * All promises: runs of 512 calls, drawn from fixed seeds, each answer held against the Model's.
 * Arguments lie mostly within and around their bounds, sometimes far outside, so it also fails if
 * a call throws.
 */
public final class RandomRunsTest {
    private static final int RUNS = 500, CALLS = 512;
    private static final int[] WILD = {Integer.MIN_VALUE, Integer.MIN_VALUE + 7, -1000, -3, -2, -1,
        41, 80, 81, 100, 101, 256, 5000, Integer.MAX_VALUE - 7, Integer.MAX_VALUE};
    private static final int CHANGES = 15, CALL_KINDS = 26;

    private final Random random;
    private final CopyInserts x = new CopyInserts();
    private final Model model = new Model();
    /** Few letters make copies and ties likely; a run keeps to its own way. */
    private final int letters;
    private final int mostCost;
    private final int liking;
    private String told = "";

    private RandomRunsTest(int seed) {
        random = new Random(seed);
        letters = 1 + random.nextInt(4);
        mostCost = new int[] {1, 3, 6, 100}[random.nextInt(4)];
        liking = random.nextInt(4);
    }

    public static void main(String[] args) {
        for (int seed = 1; seed <= RUNS; seed++) {
            new RandomRunsTest(seed).run(seed);
        }
        Check.end();
    }

    private void run(int seed) {
        for (int call = 1; call <= CALLS; call++) {
            long both = call(draw());
            Check.due("seed " + seed + ", call " + call + ": " + told, (int) (both >> 32), (int) both);
        }
    }

    /** Runs of one liking make long texts, of another long plans, of a third long CODE. */
    private int draw() {
        int dice = random.nextInt(10);
        if (liking == 0 && dice < 5) {
            return 1;
        }
        if (liking == 1 && dice < 6) {
            return 12 + random.nextInt(2);
        }
        if (liking == 2 && dice < 5) {
            return new int[] {13, 17, 19, 19, 21, 21}[random.nextInt(6)];
        }
        int kind = random.nextInt(CALL_KINDS);
        boolean rare = kind == 0 || kind == 11 || kind == 2 || kind == 20;
        return rare && random.nextInt(6) != 0 ? 1 + random.nextInt(CHANGES) : kind;
    }

    private int below(int end) {
        return random.nextInt(40) == 0 ? WILD[random.nextInt(WILD.length)] : random.nextInt(Math.max(1, end));
    }

    private int place(int size) {
        return below(size + 1);
    }

    private int letter() {
        return random.nextInt(12) == 0 ? below(256) : below(letters);
    }

    private int number() {
        return random.nextInt(30) == 0 ? below(102) : random.nextInt(mostCost + 1);
    }

    private int codeByte() {
        int dice = random.nextInt(6);
        return dice == 0 ? below(256) : dice == 1 ? below(80) : 64 * random.nextInt(3) + 1 + random.nextInt(dice == 2 ? 40 : 3);
    }

    private long pair(String call, int got, int want) {
        told = call;
        return (long) got << 32 | want & 0xffffffffL;
    }

    private long call(int kind) {
        int a;
        int b;
        switch (kind) {
            case 0:
                return pair("clear()", x.clear(), model.clear());
            case 1:
                a = below(2);
                b = letter();
                return pair("put(" + a + ", " + b + ")", x.put(a, b), model.put(a, b));
            case 2:
                a = below(2);
                b = below(random.nextInt(5) == 0 ? 42 : 5);
                return pair("cut(" + a + ", " + b + ")", x.cut(a, b), model.cut(a, b));
            case 3:
                return pair("turn()", x.turn(), model.turn());
            case 4:
                int[] c = {number(), number(), number(), number(), number()};
                return pair("costs" + java.util.Arrays.toString(c), x.costs(c[0], c[1], c[2], c[3], c[4]), model.costs(c));
            case 5:
                return pair("plan()", x.plan(), model.plan());
            case 6:
                return pair("cost()", x.cost(), model.cost());
            case 7:
                a = place(model.of(1) + 1);
                b = place(model.of(0) + 1);
                return pair("rest(" + a + ", " + b + ")", x.rest(a, b), model.rest(a, b));
            case 8:
                return match();
            case 9:
                a = place(model.of(2));
                b = below(5);
                return pair("act(" + a + ", " + b + ")", x.act(a, b), model.act(a, b));
            case 10:
                a = place(model.of(2));
                b = below(random.nextBoolean() ? 3 : 41);
                return pair("laid(" + a + ", " + b + ")", x.laid(a, b), model.laid(a, b));
            case 11:
                return pair("empty()", x.empty(), model.empty());
            default:
                return call2(kind);
        }
    }

    private long match() {
        int text = below(2);
        int p = place(text == 0 ? model.of(0) : model.of(1));
        int i = place(model.of(1));
        return pair("match(" + text + ", " + p + ", " + i + ")", x.match(text, p, i), model.match(text, p, i));
    }

    private long add() {
        int kind = below(2);
        int p = random.nextInt(8) == 0 ? below(82) : below(6);
        int n = random.nextInt(8) == 0 ? below(42) : 1 + below(3);
        return pair("add(" + kind + ", " + p + ", " + n + ")", x.add(kind, p, n), model.add(kind, p, n));
    }

    private long call2(int kind) {
        int a;
        int b;
        switch (kind) {
            case 12:
                return add();
            case 13:
                a = random.nextInt(3) == 0 ? codeByte() : letter();
                return pair("lay(" + a + ")", x.lay(a), model.lay(a));
            case 14:
                return pair("make()", x.make(), model.make());
            case 15:
                a = place(model.of(4));
                return pair("made(" + a + ")", x.made(a), model.made(a));
            case 16:
                return pair("isNew()", x.isNew(), model.isNew());
            case 17:
                return pair("write()", x.write(), model.write());
            case 18:
                a = place(model.of(3));
                return pair("code(" + a + ")", x.code(a), model.code(a));
            case 19:
                a = place(model.of(3));
                b = codeByte();
                return pair("poke(" + a + ", " + b + ")", x.poke(a, b), model.poke(a, b));
            case 20:
                a = random.nextInt(5) == 0 ? place(model.of(3) + 1) : below(3);
                return pair("shorten(" + a + ")", x.shorten(a), model.shorten(a));
            case 21:
                return pair("read()", x.read(), model.read());
            case 22:
            case 23:
                a = below(5);
                return pair("moved(" + a + ")", x.moved(a), model.moved(a));
            case 24:
                a = below(14);
                return pair("of(" + a + ")", x.of(a), model.of(a));
            default:
                a = below(2);
                b = below(42);
                return pair("at(" + a + ", " + b + ")", x.at(a, b), model.at(a, b));
        }
    }
}
