import java.util.function.Consumer;
import java.util.function.ToIntFunction;

/** Holds a refused call against its answer, and an object behind it against one without it. */
final class Refused {
    /** Numbers that lie outside all bounds of the document, near and far. */
    static final int[] WILD = {Integer.MIN_VALUE, Integer.MIN_VALUE + 1, Integer.MIN_VALUE + 8, -65521, -1000,
        -5, -4, -3, -2, -1, 5000, 65521, Integer.MAX_VALUE - 40, Integer.MAX_VALUE - 1, Integer.MAX_VALUE};

    private Refused() {
    }

    static void bad(String call, Consumer<CopyInserts> recipe, ToIntFunction<CopyInserts> refused) {
        check(call, recipe, refused, CopyInserts.BAD);
    }

    static void full(String call, Consumer<CopyInserts> recipe, ToIntFunction<CopyInserts> refused) {
        check(call, recipe, refused, CopyInserts.FULL);
    }

    static void check(String call, Consumer<CopyInserts> recipe, ToIntFunction<CopyInserts> refused, int due) {
        Check.due(call, refused.applyAsInt(made(recipe)), due);
        Consumer<CopyInserts> withIt = recipe.andThen(refused::applyAsInt);
        Check.dueText(call + " changes nothing", whole(withIt), whole(recipe));
    }

    private static CopyInserts made(Consumer<CopyInserts> recipe) {
        CopyInserts x = new CopyInserts();
        recipe.accept(x);
        return x;
    }

    /**
     * All that can be seen of an object, and what the calls that depend on all of it would answer
     * next. Each part is read from an object of its own, so that none is used for over 512 calls.
     */
    static String whole(Consumer<CopyInserts> recipe) {
        StringBuilder all = new StringBuilder();
        all.append(Texts.numbers(made(recipe)));
        all.append("|OLD ").append(Texts.text(made(recipe), 0));
        all.append("|NEW ").append(Texts.text(made(recipe), 1));
        all.append("|THE PLAN ").append(Texts.plan(made(recipe)));
        all.append("|CODE ").append(Texts.code(made(recipe)));
        all.append("|MADE ").append(Texts.made(made(recipe))).append(' ').append(made(recipe).isNew());
        all.append("|cost ").append(made(recipe).cost());
        all.append("|REST ").append(rests(made(recipe)));
        all.append("|next ").append(next(recipe));
        return all.toString();
    }

    private static String rests(CopyInserts x) {
        StringBuilder all = new StringBuilder();
        for (int i = 0; i <= x.of(1); i++) {
            all.append(x.rest(i, 0)).append(' ').append(x.rest(i, x.of(0))).append(' ');
        }
        for (int what = 0; what <= 4; what++) {
            all.append("moved ").append(x.moved(what)).append(' ');
        }
        return all.toString();
    }

    private static String next(Consumer<CopyInserts> recipe) {
        StringBuilder all = new StringBuilder();
        CopyInserts planned = made(recipe);
        all.append(planned.plan()).append(' ').append(Texts.plan(planned));
        all.append(" lay ").append(made(recipe).lay(1));
        all.append(" add ").append(made(recipe).add(0, 0, 1));
        all.append(" write ").append(made(recipe).write());
        CopyInserts again = made(recipe);
        all.append(" make ").append(again.make()).append(' ').append(Texts.made(again));
        CopyInserts reading = made(recipe);
        all.append(" read ").append(reading.read()).append(' ').append(Texts.plan(reading));
        return all.toString();
    }

    /** An object in which nothing is empty, and nothing is what the next call would make of it. */
    static void rich(CopyInserts x) {
        Texts.put(x, 0, "abcab");
        Texts.put(x, 1, "cabXcabXY");
        x.costs(5, 1, 3, 2, 4);
        x.plan();
        x.write();
        x.make();
        x.add(0, 1, 2);
        x.lay('u');
        x.lay('v');
        Texts.put(x, 0, "Q");
        Texts.put(x, 1, "Qa");
    }

    static void fullTexts(CopyInserts x) {
        for (int i = 0; i < 40; i++) {
            x.put(0, i % 7);
            x.put(1, i % 5);
        }
    }

    /** 100 ACTS, the last of them a SELF. */
    static void fullPlan(CopyInserts x) {
        Texts.put(x, 0, "abc");
        x.lay('u');
        for (int k = 2; k <= 100; k++) {
            x.add(1, k % 3, 1 + k % 2);
        }
    }
}
