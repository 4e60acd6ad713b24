/** The boundary cases of promises 7, 8, 9 and 24, one method each. */
public final class BestPlanBoundaryTest {
    private static final int BAD = CopyInserts.BAD;

    public static void main(String[] args) {
        Cases.run(BestPlanBoundaryTest.class, 7, 8, 9, 24);
    }

    private static CopyInserts by(int[] costs, String old, String made) {
        CopyInserts x = Texts.of(old, made);
        x.costs(costs[0], costs[1], costs[2], costs[3], costs[4]);
        return x;
    }

    private static int[] costs(int... five) {
        return five;
    }

    private static void plans(CopyInserts x, String due, int cost) {
        Check.due("plan()", x.plan(), due.isEmpty() ? 0 : due.split(", ").length);
        Check.dueText("THE PLAN", Texts.plan(x), due);
        Check.due("cost()", x.cost(), cost);
        Check.due("rest(0, 0)", x.rest(0, 0), cost);
        Check.due("make()", x.make(), x.of(1));
        Check.due("isNew()", x.isNew(), 1);
    }

    private static void moved(CopyInserts x, int... due) {
        for (int what = 0; what <= 4; what++) {
            Check.due("moved(" + what + ")", x.moved(what), due[what]);
        }
    }

    /** 40 BYTES, no two of them the same. */
    private static String forty(int first) {
        StringBuilder all = new StringBuilder();
        for (int i = 0; i < 40; i++) {
            all.append((char) (first + i));
        }
        return all.toString();
    }

    static void p07EmptyNewHasNoActs() {
        plans(Texts.of("", ""), "", 0);
        plans(Texts.of("abc", ""), "", 0);
        plans(by(costs(0, 0, 0, 0, 0), forty(0), ""), "", 0);
    }

    /** THE PLAN that was there goes, and THE SUM comes, though there is nothing to be made. */
    static void p07EmptyNewInPlaceOfActs() {
        CopyInserts x = Texts.of("abc", "");
        x.add(0, 0, 1);
        x.lay(5);
        Check.due("plan()", x.plan(), 0);
        Check.due("ACTS", x.of(2), 0);
        Check.due("that of THE PLAN", x.of(7), x.of(5));
    }

    static void p07InPlaceOfAFullPlan() {
        CopyInserts x = new CopyInserts();
        Refused.fullPlan(x);
        Texts.put(x, 1, "bc");
        plans(x, "C 1 2", 6);
    }

    static void p07SumOfOld() {
        CopyInserts x = new CopyInserts();
        Texts.put(x, 0, 37, 5, 17);
        x.put(1, 1);
        x.plan();
        Check.due("that of THE PLAN", x.of(7), 65520);
        x.put(0, 1);
        Check.due("it stays", x.of(7), 65520);
        x.plan();
        Check.due("that of the next one", x.of(7), x.of(5));
    }

    static void p07EmptyOld() {
        plans(Texts.of("", "a"), "L a", 5);
        plans(Texts.of("", "ab"), "L ab", 8);
    }

    static void p07OneByteThatOldHas() {
        plans(Texts.of("a", "a"), "C 0 1", 4);
        plans(Texts.of("xa", "a"), "L a", 5);
    }

    static void p07FullTextsThatAreTheSame() {
        plans(Texts.of(forty(50), forty(50)), "C 0 40", 4);
    }

    static void p07FullTextsThatShareNothing() {
        plans(Texts.of(forty(50), forty(150)), "L " + forty(150), 122);
    }

    static void p07FullNewOfOneByte() {
        plans(Texts.of("", "a".repeat(40)), "L a, S 0 39", 9);
        plans(Texts.of("a", "a".repeat(40)), "C 0 1, S 0 39", 8);
    }

    static void p07FortyActs() {
        String turned = new StringBuilder(forty(50)).reverse().toString();
        CopyInserts x = by(costs(1, 0, 0, 100, 100), forty(50), turned);
        Check.due("plan()", x.plan(), 40);
        Check.due("cost()", x.cost(), 40);
        Check.due("the first p", x.act(0, 2), 39);
        Check.due("the last p", x.act(39, 2), 0);
        Check.due("make()", x.make(), 40);
        Check.due("isNew()", x.isNew(), 1);
    }

    static void p07AllNumbersZero() {
        int[] zero = costs(0, 0, 0, 0, 0);
        plans(by(zero, "ab", "abab"), "C 0 2, C 0 2", 0);
        plans(by(zero, "b", "abab"), "L abab", 0);
        plans(by(zero, "", "aa"), "L aa", 0);
        plans(by(zero, "", "a"), "L a", 0);
    }

    static void p07AllNumbers100() {
        int[] most = costs(100, 100, 100, 100, 100);
        plans(by(most, "a", "a"), "C 0 1", 100);
        plans(by(most, "xa", "a"), "C 1 1", 200);
        plans(by(most, "", "aa"), "L aa", 300);
        plans(by(most, "", "aaa"), "L a, S 0 2", 300);
        plans(by(most, "", forty(50)), "L " + forty(50), 4100);
    }

    /** Where they cost the same, the KIND decides, though the later KIND would make more. */
    static void p07CopyAheadOfSelfAndLay() {
        plans(by(costs(1, 0, 1, 100, 100), "a", "aaa"), "C 0 1, S 0 2", 2);
        plans(by(costs(1, 0, 9, 0, 1), "a", "ab"), "C 0 1, L b", 2);
    }

    static void p07SelfAheadOfLay() {
        plans(by(costs(9, 0, 1, 0, 1), "", "aab"), "L aab", 3);
        plans(by(costs(0, 9, 1, 0, 1), "a", "aab"), "C 0 1, S 0 1, L b", 2);
    }

    /** The lesser COST goes ahead of THE ORDER. */
    static void p07LeastCostAheadOfTheOrder() {
        plans(by(costs(6, 0, 9, 2, 3), "a", "a"), "L a", 5);
        plans(by(costs(5, 0, 9, 2, 3), "a", "a"), "C 0 1", 5);
        plans(by(costs(4, 0, 9, 2, 3), "a", "a"), "C 0 1", 4);
    }

    static void p07TheOneThatMakesMore() {
        plans(by(costs(0, 0, 9, 9, 9), "abxabc", "abc"), "C 3 3", 0);
        plans(by(costs(1, 0, 9, 9, 9), "aba", "aba"), "C 0 3", 1);
        plans(by(costs(99, 0, 0, 50, 0), "", "abab"), "L abab", 50);
    }

    static void p07TheLesserPlaceOfCopies() {
        plans(by(costs(1, 0, 9, 9, 9), "xabyab", "ab"), "C 1 2", 1);
        plans(by(costs(1, 5, 9, 9, 9), "xabyab", "ab"), "C 1 2", 6);
    }

    static void p07TheLesserPlaceOfSelves() {
        plans(by(costs(99, 0, 1, 9, 1), "", "aXaYa"), "L aXaYa", 14);
        plans(by(costs(99, 0, 1, 0, 10), "", "aXaYa"), "L aX, S 0 1, L Y, S 0 1", 32);
    }

    /** SEEKING is spared at 0 at first alone, and behind a COPY at its end alone. */
    static void p07SpotAtFirst() {
        plans(by(costs(1, 5, 99, 50, 50), "aba", "a"), "C 0 1", 1);
        plans(by(costs(1, 5, 99, 50, 50), "bab", "a"), "C 1 1", 6);
    }

    /** The second "cd" costs less to go on with, though the first has the lesser p. */
    static void p07SpotBehindACopy() {
        plans(by(costs(1, 5, 99, 1, 1), "cdabXcd", "abcd"), "L ab, C 0 2", 4);
        plans(by(costs(1, 5, 99, 50, 50), "cdabYcd", "abYcd"), "C 2 5", 6);
        plans(by(costs(1, 5, 99, 1, 1), "abcdXcd", "abZcd"), "C 0 2, L Z, C 2 2", 4);
    }

    static void p07SpotStaysBehindSelfAndLay() {
        plans(by(costs(1, 50, 1, 0, 20), "abcd", "ababZcd"), "C 0 2, S 0 2, L Z, C 2 2", 23);
    }

    static void p07SpotAtTheEndOfOld() {
        plans(by(costs(1, 5, 99, 50, 50), "ab", "abab"), "C 0 2, C 0 2", 7);
    }

    static void p07SelfOfWhatItMakesItself() {
        plans(Texts.of("", "abababababa"), "L ab, S 0 9", 12);
    }

    static void p07SelfTakesNothingThatComesBehind() {
        plans(by(costs(99, 0, 0, 1, 1), "", "ab"), "L ab", 3);
        plans(by(costs(99, 0, 0, 1, 100), "", "aab"), "L a, S 0 1, L b", 202);
    }

    /** All in all 8000 BYTES are laid, twice as many as 100 ACTS can lay. */
    static void p07TwoHundredTimes() {
        CopyInserts x = Texts.of("", forty(50));
        for (int i = 1; i <= 200; i++) {
            Check.due("plan() " + i, x.plan(), 1);
        }
        plans(x, "L " + forty(50), 122);
    }

    static void p07CodeAndMadeStay() {
        CopyInserts x = new CopyInserts();
        Refused.rich(x);
        String ahead = Texts.code(x) + Texts.made(x);
        x.plan();
        Check.dueText("CODE and MADE", Texts.code(x) + Texts.made(x), ahead);
    }

    static void p08NoActs() {
        Check.due("cost()", new CopyInserts().cost(), 0);
        CopyInserts x = by(costs(100, 100, 100, 100, 100), "ab", "ab");
        Check.due("cost() of no ACTS by 100", x.cost(), 0);
    }

    static void p08SpotAtFirst() {
        CopyInserts x = new CopyInserts();
        x.add(0, 0, 1);
        Check.due("p 0", x.cost(), 4);
        x.empty();
        x.add(0, 1, 1);
        Check.due("p 1", x.cost(), 6);
    }

    static void p08SpotBehindACopy() {
        int[] due = {10, 8, 10};
        for (int p = 2; p <= 4; p++) {
            CopyInserts x = new CopyInserts();
            x.add(0, 0, 3);
            x.add(0, p, 1);
            Check.due("p " + p, x.cost(), due[p - 2]);
        }
    }

    static void p08SpotStaysBehindSelfAndLay() {
        CopyInserts x = new CopyInserts();
        x.add(0, 0, 3);
        x.add(1, 5, 7);
        x.lay(1);
        x.add(0, 3, 1);
        Check.due("cost()", x.cost(), 4 + 4 + 5 + 4);
    }

    static void p08SpotBeyondOld() {
        CopyInserts x = new CopyInserts();
        x.add(0, 70, 9);
        x.add(0, 79, 40);
        Check.due("cost()", x.cost(), 6 + 4);
    }

    static void p08LaysOfOneAndOf40() {
        CopyInserts x = new CopyInserts();
        x.lay(1);
        Check.due("of one", x.cost(), 5);
        for (int i = 2; i <= 40; i++) {
            x.lay(1);
        }
        Check.due("of 40", x.cost(), 122);
        x.lay(1);
        Check.due("of 41", x.cost(), 127);
    }

    static void p08NumbersOfNow() {
        CopyInserts x = new CopyInserts();
        x.add(0, 1, 1);
        x.add(1, 0, 1);
        x.lay(1);
        x.costs(0, 0, 0, 0, 0);
        Check.due("by 0", x.cost(), 0);
        x.costs(100, 100, 100, 100, 100);
        Check.due("by 100", x.cost(), 500);
    }

    static void p08AFullPlan() {
        CopyInserts x = new CopyInserts();
        for (int k = 1; k <= 100; k++) {
            x.add(0, 79, 40);
        }
        x.costs(100, 100, 100, 100, 100);
        Check.due("cost()", x.cost(), 20000);
    }

    static void p08ItNeedNotFit() {
        CopyInserts x = Texts.of("a", "bbbb");
        x.add(1, 79, 40);
        x.add(0, 0, 40);
        Check.due("cost()", x.cost(), 8);
    }

    static void p09BothEmpty() {
        CopyInserts x = new CopyInserts();
        Check.due("rest(0, 0)", x.rest(0, 0), 0);
        Check.due("rest(1, 0)", x.rest(1, 0), BAD);
        Check.due("rest(0, 1)", x.rest(0, 1), BAD);
        Check.due("rest(-1, 0)", x.rest(-1, 0), BAD);
        Check.due("rest(0, -1)", x.rest(0, -1), BAD);
    }

    static void p09BehindTheLastByteIsNothing() {
        CopyInserts x = Texts.of("abc", "ab");
        for (int spot = 0; spot <= 3; spot++) {
            Check.due("rest(2, " + spot + ")", x.rest(2, spot), 0);
        }
    }

    static void p09PlaceTooSmall() {
        Refused.bad("rest(-1, 0)", Refused::rich, x -> x.rest(-1, 0));
    }

    /** OLD has a place of that number: it is NEW's that counts. */
    static void p09PlaceTooLarge() {
        CopyInserts x = Texts.of("abcd", "ab");
        Check.due("rest(2, 0)", x.rest(2, 0), 0);
        Check.due("rest(3, 0)", x.rest(3, 0), BAD);
        Refused.bad("rest(12, 0)", Refused::rich, y -> y.rest(12, 0));
    }

    static void p09SpotTooSmall() {
        Refused.bad("rest(0, -1)", Refused::rich, x -> x.rest(0, -1));
    }

    static void p09SpotTooLarge() {
        CopyInserts x = Texts.of("ab", "abcd");
        Check.due("rest(0, 2)", x.rest(0, 2), 6 + 8);
        Check.due("rest(0, 3)", x.rest(0, 3), BAD);
        Refused.bad("rest(0, 7)", Refused::rich, y -> y.rest(0, 7));
    }

    static void p09BadBehindTheLastByteToo() {
        CopyInserts x = Texts.of("ab", "abcd");
        Check.due("rest(4, 2)", x.rest(4, 2), 0);
        Check.due("rest(4, 3)", x.rest(4, 3), BAD);
        Check.due("rest(4, -1)", x.rest(4, -1), BAD);
        Check.due("rest(5, 2)", x.rest(5, 2), BAD);
    }

    static void p09FullTexts() {
        CopyInserts x = Texts.of(forty(50), forty(50));
        Check.due("rest(0, 0)", x.rest(0, 0), 4);
        Check.due("rest(0, 40)", x.rest(0, 40), 6);
        Check.due("rest(39, 39)", x.rest(39, 39), 4);
        Check.due("rest(39, 40)", x.rest(39, 40), 5);
        Check.due("rest(40, 40)", x.rest(40, 40), 0);
        Check.due("rest(41, 0)", x.rest(41, 0), BAD);
        Check.due("rest(0, 41)", x.rest(0, 41), BAD);
    }

    static void p09SpotAndBesideIt() {
        CopyInserts x = by(costs(1, 5, 99, 50, 50), "abcdef", "cd");
        int[] due = {6, 6, 1, 6, 6, 6, 6};
        for (int spot = 0; spot <= 6; spot++) {
            Check.due("rest(0, " + spot + ")", x.rest(0, spot), due[spot]);
        }
    }

    static void p09WhatIsAheadIsMade() {
        CopyInserts x = by(costs(99, 0, 1, 50, 50), "", "abab");
        Check.due("rest(1, 0)", x.rest(1, 0), 100 + 1);
        Check.due("rest(2, 0)", x.rest(2, 0), 1);
        Check.due("rest(3, 0)", x.rest(3, 0), 1);
    }

    static void p09TheDearest() {
        CopyInserts x = by(costs(100, 100, 100, 100, 100), "", forty(50));
        Check.due("rest(0, 0)", x.rest(0, 0), 4100);
        Check.due("rest(39, 0)", x.rest(39, 0), 200);
    }

    static void p09FarOut() {
        for (int wild : Refused.WILD) {
            Refused.bad("rest(" + wild + ", 0)", Refused::rich, x -> x.rest(wild, 0));
            Refused.bad("rest(0, " + wild + ")", Refused::rich, x -> x.rest(0, wild));
        }
    }

    static void p09ItChangesNothing() {
        Check.dueText("all", Refused.whole(x -> {
            Refused.rich(x);
            x.rest(3, 2);
        }), Refused.whole(Refused::rich));
    }

    /** Each is asked just ahead of the next change, so that nothing known by then may be kept. */
    static void p09BehindEachChange() {
        CopyInserts x = Texts.of("abc", "abc");
        Check.due("at first", x.rest(0, 0), 4);
        x.put(1, 'Z');
        Check.due("NEW has more", x.rest(0, 0), 9);
        x.put(0, 'Z');
        Check.due("OLD has more", x.rest(0, 0), 4);
        x.cut(0, 1);
        Check.due("OLD has less", x.rest(0, 0), 9);
        x.cut(1, 1);
        Check.due("NEW has less", x.rest(0, 0), 4);
        Texts.put(x, 1, "YZ");
        Check.due("NEW has two more", x.rest(0, 0), 12);
        x.turn();
        Check.due("turned", x.rest(0, 0), 4);
        x.costs(5, 2, 4, 2, 3);
        Check.due("another number", x.rest(0, 0), 5);
        x.clear();
        Check.due("cleared", x.rest(0, 0), 0);
    }

    static void p24WhatTooSmall() {
        Refused.bad("moved(-1)", Refused::rich, x -> x.moved(-1));
    }

    static void p24WhatTooLarge() {
        Refused.bad("moved(5)", Refused::rich, x -> x.moved(5));
        Check.due("moved(4)", Texts.of("", "a").moved(4), 1);
    }

    static void p24FarOut() {
        for (int wild : Refused.WILD) {
            Refused.bad("moved(" + wild + ")", Refused::rich, x -> x.moved(wild));
        }
    }

    static void p24EmptyNew() {
        moved(Texts.of("abc", ""), 0, 0, 0, 0, 0);
        moved(Texts.of("", ""), 0, 0, 0, 0, 0);
    }

    static void p24AtTheSpotAtFirst() {
        moved(by(costs(1, 1, 99, 50, 50), "ab", "a"), 0, 1, 0, 0, 0);
    }

    static void p24OneAboveTheSpotAtFirst() {
        moved(by(costs(1, 1, 99, 50, 50), "ab", "b"), 0, 0, 1, 0, 0);
    }

    static void p24OneBelowAtAndOneAboveTheSpot() {
        moved(by(costs(1, 1, 99, 50, 50), "abcd", "abb"), 1, 2, 0, 0, 0);
        moved(by(costs(1, 1, 99, 50, 50), "abcd", "abZcd"), 0, 4, 0, 0, 1);
        moved(by(costs(1, 1, 99, 50, 50), "abcd", "abd"), 0, 2, 1, 0, 0);
    }

    static void p24SpotStaysBehindSelfAndLay() {
        moved(by(costs(1, 50, 1, 0, 20), "abcd", "ababZcd"), 0, 4, 0, 2, 1);
    }

    static void p24BytesOfSelfAreAllThatItMakes() {
        moved(Texts.of("", "a".repeat(40)), 0, 0, 0, 39, 1);
    }

    static void p24FullTexts() {
        moved(Texts.of(forty(50), forty(50)), 0, 40, 0, 0, 0);
        moved(Texts.of(forty(50), forty(150)), 0, 0, 0, 0, 40);
        String turned = new StringBuilder(forty(50)).reverse().toString();
        moved(by(costs(1, 0, 0, 100, 100), forty(50), turned), 39, 0, 1, 0, 0);
    }

    /** THE PLAN is another one than THE BEST PLAN, and stays. */
    static void p24OfTheBestPlan() {
        CopyInserts x = Texts.of("abc", "abc");
        x.add(1, 0, 9);
        moved(x, 0, 3, 0, 0, 0);
        Check.dueText("THE PLAN", Texts.plan(x), "S 0 9");
        Check.due("its SUM", x.of(7), 1);
    }

    static void p24ItChangesNothing() {
        Check.dueText("all", Refused.whole(x -> {
            Refused.rich(x);
            x.moved(0);
            x.moved(4);
        }), Refused.whole(Refused::rich));
    }
}
