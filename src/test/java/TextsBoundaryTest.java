/** The boundary cases of promises 1 to 6, 10, 25 and 26, one method each. */
public final class TextsBoundaryTest {
    private static final int BAD = CopyInserts.BAD, FULL = CopyInserts.FULL, NONE = CopyInserts.NONE;

    public static void main(String[] args) {
        Cases.run(TextsBoundaryTest.class, 1, 2, 3, 4, 5, 6, 10, 25, 26);
    }

    private static CopyInserts full(int text) {
        CopyInserts x = new CopyInserts();
        for (int i = 1; i <= 40; i++) {
            Check.due("byte " + i, x.put(text, i), i);
        }
        return x;
    }

    static void p01BothTextsAreEmpty() {
        CopyInserts x = new CopyInserts();
        Check.due("OLD", x.of(0), 0);
        Check.due("NEW", x.of(1), 0);
        Check.due("at(0, 0)", x.at(0, 0), BAD);
        Check.due("at(1, 0)", x.at(1, 0), BAD);
        Check.due("cut(0, 1)", x.cut(0, 1), BAD);
        Check.due("cut(1, 1)", x.cut(1, 1), BAD);
        Check.due("match(0, 0, 0)", x.match(0, 0, 0), BAD);
        Check.due("match(1, 0, 0)", x.match(1, 0, 0), BAD);
    }

    static void p01ThePlanIsEmpty() {
        CopyInserts x = new CopyInserts();
        Check.due("ACTS", x.of(2), 0);
        Check.due("act(0, 0)", x.act(0, 0), BAD);
        Check.due("laid(0, 0)", x.laid(0, 0), BAD);
        Check.due("cost()", x.cost(), 0);
        Check.due("empty()", x.empty(), 0);
    }

    static void p01CodeIsEmpty() {
        CopyInserts x = new CopyInserts();
        Check.due("bytes of CODE", x.of(3), 0);
        Check.due("code(0)", x.code(0), NONE);
        Check.due("poke(0, 0)", x.poke(0, 0), BAD);
        Check.due("shorten(1)", x.shorten(1), BAD);
        Check.due("read()", x.read(), -1000);
    }

    static void p01NothingIsMade() {
        CopyInserts x = new CopyInserts();
        Check.due("BYTES MADE", x.of(4), 0);
        Check.due("made(0)", x.made(0), NONE);
        Check.due("nothing is an empty NEW", x.isNew(), 1);
    }

    static void p01SumIsThatOfAnEmptyOld() {
        CopyInserts x = new CopyInserts();
        Check.due("of OLD", x.of(5), 1);
        Check.due("of NEW", x.of(6), 1);
        Check.due("of THE PLAN", x.of(7), 1);
        Check.due("make()", x.make(), 0);
    }

    static void p01TheFirstNumbers() {
        CopyInserts x = new CopyInserts();
        int[] first = {4, 2, 4, 2, 3};
        for (int i = 0; i < 5; i++) {
            Check.due("of(" + (8 + i) + ")", x.of(8 + i), first[i]);
        }
    }

    static void p01TheBestPlanOfNothing() {
        CopyInserts x = new CopyInserts();
        Check.due("rest(0, 0)", x.rest(0, 0), 0);
        for (int what = 0; what <= 4; what++) {
            Check.due("moved(" + what + ")", x.moved(what), 0);
        }
        Check.due("plan()", x.plan(), 0);
    }

    static void p01AnObjectHasNothingOfAnother() {
        CopyInserts one = new CopyInserts();
        CopyInserts other = new CopyInserts();
        Refused.rich(one);
        Check.dueText("another", Texts.state(other), Texts.state(new CopyInserts()));
    }

    static void p02ClearOfANewObject() {
        CopyInserts x = new CopyInserts();
        Check.due("clear()", x.clear(), 0);
        Check.dueText("all", Texts.state(x), Texts.state(new CopyInserts()));
    }

    static void p02ClearOfFullTexts() {
        CopyInserts x = new CopyInserts();
        Refused.fullTexts(x);
        Check.due("clear()", x.clear(), 80);
        Check.due("put to OLD", x.put(0, 9), 1);
        Check.due("put to NEW", x.put(1, 9), 1);
    }

    static void p02ClearCountsBothTexts() {
        Check.due("OLD alone", Texts.of("abc", "").clear(), 3);
        Check.due("NEW alone", Texts.of("", "ab").clear(), 2);
        Check.due("both", Texts.of("abc", "ab").clear(), 5);
    }

    static void p02AllIsAsAtFirst() {
        Check.dueText("all", Refused.whole(x -> {
            Refused.rich(x);
            x.clear();
        }), Refused.whole(x -> { }));
    }

    static void p02WhatWasKnownOfTheTextsIsForgotten() {
        CopyInserts x = Texts.of("abc", "xyz");
        Check.due("rest(0, 0)", x.rest(0, 0), 11);
        x.clear();
        Check.due("rest(0, 0) of nothing", x.rest(0, 0), 0);
        Check.due("plan()", x.plan(), 0);
    }

    static void p02ClearOfAFullPlan() {
        CopyInserts x = new CopyInserts();
        Refused.fullPlan(x);
        Check.due("clear()", x.clear(), 3);
        Check.due("ACTS", x.of(2), 0);
        Check.due("lay(7)", x.lay(7), 1);
        Check.due("laid(0, 0)", x.laid(0, 0), 7);
        Check.due("its n", x.act(0, 1), 1);
    }

    static void p02ClearAgain() {
        CopyInserts x = Texts.of("abc", "ab");
        x.clear();
        Check.due("clear()", x.clear(), 0);
    }

    static void p03ValueOfZero() {
        CopyInserts x = new CopyInserts();
        Check.due("put(0, 0)", x.put(0, 0), 1);
        Check.due("at(0, 0)", x.at(0, 0), 0);
        Check.due("put(1, 0)", x.put(1, 0), 1);
        Check.due("at(1, 0)", x.at(1, 0), 0);
    }

    static void p03ValueOf255() {
        CopyInserts x = new CopyInserts();
        Check.due("put(0, 255)", x.put(0, 255), 1);
        Check.due("at(0, 0)", x.at(0, 0), 255);
        Check.due("put(1, 255)", x.put(1, 255), 1);
        Check.due("at(1, 0)", x.at(1, 0), 255);
    }

    static void p03ValueTooSmall() {
        Refused.bad("put(0, -1)", Refused::rich, x -> x.put(0, -1));
        Refused.bad("put(1, -1)", Refused::rich, x -> x.put(1, -1));
    }

    static void p03ValueTooLarge() {
        Refused.bad("put(0, 256)", Refused::rich, x -> x.put(0, 256));
        Refused.bad("put(1, 256)", Refused::rich, x -> x.put(1, 256));
    }

    static void p03TextThatIsNone() {
        Refused.bad("put(-1, 0)", Refused::rich, x -> x.put(-1, 0));
        Refused.bad("put(2, 0)", Refused::rich, x -> x.put(2, 0));
    }

    static void p03FarOut() {
        for (int wild : Refused.WILD) {
            Refused.bad("put(0, " + wild + ")", Refused::rich, x -> x.put(0, wild));
            Refused.bad("put(" + wild + ", 0)", Refused::rich, x -> x.put(wild, 0));
        }
    }

    static void p03The40thOfOldAndNoMore() {
        CopyInserts x = full(0);
        Check.due("the 41st", x.put(0, 41), FULL);
        Check.due("OLD has", x.of(0), 40);
        Check.due("its last", x.at(0, 39), 40);
        Check.due("NEW takes one", x.put(1, 1), 1);
    }

    static void p03The40thOfNewAndNoMore() {
        CopyInserts x = full(1);
        Check.due("the 41st", x.put(1, 41), FULL);
        Check.due("NEW has", x.of(1), 40);
        Check.due("its last", x.at(1, 39), 40);
        Check.due("OLD takes one", x.put(0, 1), 1);
    }

    static void p03FullChangesNothing() {
        Refused.full("put(0, 1)", Refused::fullTexts, x -> x.put(0, 1));
        Refused.full("put(1, 1)", Refused::fullTexts, x -> x.put(1, 1));
        Refused.full("put(0, 255)", Refused::fullTexts, x -> x.put(0, 255));
    }

    static void p03BadAheadOfFull() {
        Refused.bad("put(0, 256)", Refused::fullTexts, x -> x.put(0, 256));
        Refused.bad("put(1, -1)", Refused::fullTexts, x -> x.put(1, -1));
        Refused.bad("put(2, 1)", Refused::fullTexts, x -> x.put(2, 1));
        Refused.bad("put(-1, 1)", Refused::fullTexts, x -> x.put(-1, 1));
    }

    static void p03RoomAgainBehindACut() {
        CopyInserts x = full(0);
        x.cut(0, 1);
        Check.due("put", x.put(0, 77), 40);
        Check.due("its last", x.at(0, 39), 77);
        Check.due("one more", x.put(0, 78), FULL);
    }

    static void p04CutOfNone() {
        CopyInserts x = Texts.of("abc", "de");
        Check.due("cut(0, 0)", x.cut(0, 0), 3);
        Check.due("cut(1, 0)", x.cut(1, 0), 2);
        Check.dueText("OLD", Texts.text(x, 0), "abc");
        Check.dueText("NEW", Texts.text(x, 1), "de");
    }

    static void p04CutOfAll() {
        CopyInserts x = Texts.of("abc", "de");
        Check.due("cut(0, 3)", x.cut(0, 3), 0);
        Check.due("NEW has", x.of(1), 2);
        Check.due("cut(1, 2)", x.cut(1, 2), 0);
        Check.due("THE SUM of OLD", x.of(5), 1);
        Check.due("THE SUM of NEW", x.of(6), 1);
    }

    static void p04CutOfAllOfAFullText() {
        CopyInserts x = full(1);
        Check.due("cut(1, 41)", x.cut(1, 41), BAD);
        Check.due("cut(1, 40)", x.cut(1, 40), 0);
    }

    static void p04CutOfOneMoreThanItHas() {
        Refused.bad("cut(0, 7)", Refused::rich, x -> x.cut(0, 7));
        Refused.bad("cut(1, 12)", Refused::rich, x -> x.cut(1, 12));
        Check.due("cut(0, 6)", Texts.of("abcabQ", "").cut(0, 6), 0);
    }

    /** The other TEXT has so many. */
    static void p04CutOfWhatTheOtherHas() {
        CopyInserts x = Texts.of("a", "bcd");
        Check.due("cut(0, 3)", x.cut(0, 3), BAD);
        Check.due("cut(1, 3)", x.cut(1, 3), 0);
    }

    static void p04CutOfAnEmptyText() {
        CopyInserts x = new CopyInserts();
        Check.due("cut(0, 0)", x.cut(0, 0), 0);
        Check.due("cut(1, 0)", x.cut(1, 0), 0);
        Check.due("cut(0, 1)", x.cut(0, 1), BAD);
        Check.due("cut(1, 1)", x.cut(1, 1), BAD);
    }

    static void p04NegativeNumber() {
        Refused.bad("cut(0, -1)", Refused::rich, x -> x.cut(0, -1));
        Refused.bad("cut(1, -1)", Refused::rich, x -> x.cut(1, -1));
    }

    static void p04TextThatIsNone() {
        Refused.bad("cut(-1, 0)", Refused::rich, x -> x.cut(-1, 0));
        Refused.bad("cut(2, 0)", Refused::rich, x -> x.cut(2, 0));
        Refused.bad("cut(2, 1)", Refused::rich, x -> x.cut(2, 1));
    }

    static void p04FarOut() {
        for (int wild : Refused.WILD) {
            Refused.bad("cut(0, " + wild + ")", Refused::rich, x -> x.cut(0, wild));
            Refused.bad("cut(" + wild + ", 1)", Refused::rich, x -> x.cut(wild, 1));
        }
    }

    static void p04TheLastOnesGo() {
        CopyInserts x = Texts.of("abcde", "");
        Check.due("cut(0, 2)", x.cut(0, 2), 3);
        Check.dueText("OLD", Texts.text(x, 0), "abc");
        Check.due("put(0, 'x')", x.put(0, 'x'), 4);
        Check.dueText("OLD", Texts.text(x, 0), "abcx");
        Check.due("at(0, 4)", x.at(0, 4), BAD);
    }

    static void p05TurnOfEmptyTexts() {
        CopyInserts x = new CopyInserts();
        Check.due("turn()", x.turn(), 0);
        Check.dueText("all", Texts.state(x), Texts.state(new CopyInserts()));
    }

    static void p05TurnOfAFullOldAndAnEmptyNew() {
        CopyInserts x = full(0);
        Check.due("turn()", x.turn(), 0);
        Check.due("NEW has", x.of(1), 40);
        Check.due("its last", x.at(1, 39), 40);
        Check.due("put to NEW", x.put(1, 1), FULL);
        Check.due("put to OLD", x.put(0, 1), 1);
    }

    static void p05TurnOfAnEmptyOldAndAFullNew() {
        CopyInserts x = full(1);
        Check.due("turn()", x.turn(), 40);
        Check.due("NEW has", x.of(1), 0);
        Check.due("OLD's last", x.at(0, 39), 40);
        Check.due("put to OLD", x.put(0, 1), FULL);
        Check.due("put to NEW", x.put(1, 1), 1);
    }

    static void p05TurnOfFullTexts() {
        CopyInserts x = new CopyInserts();
        Refused.fullTexts(x);
        String old = Texts.text(x, 0);
        String made = Texts.text(x, 1);
        Check.due("turn()", x.turn(), 40);
        Check.dueText("OLD", Texts.text(x, 0), made);
        Check.dueText("NEW", Texts.text(x, 1), old);
    }

    static void p05TurnAgain() {
        Check.dueText("all", Refused.whole(x -> {
            Refused.rich(x);
            x.turn();
            x.turn();
        }), Refused.whole(Refused::rich));
    }

    static void p05WhatWasKnownOfTheTextsIsForgotten() {
        CopyInserts x = Texts.of("ab", "abcd");
        Check.due("rest(0, 0)", x.rest(0, 0), 12);
        x.turn();
        Check.due("rest(0, 0) of the turned", x.rest(0, 0), 4);
        Check.due("moved(1)", x.moved(1), 2);
    }

    static void p05OnlyTheTextsAreChanged() {
        CopyInserts x = new CopyInserts();
        Refused.rich(x);
        String ahead = Texts.plan(x) + x.of(7) + Texts.code(x) + Texts.made(x);
        Check.due("turn()", x.turn(), 11);
        Check.dueText("THE PLAN, CODE, MADE", Texts.plan(x) + x.of(7) + Texts.code(x) + Texts.made(x), ahead);
        Check.due("COPYING", x.of(8), 5);
        Check.due("THE PLAN is of another OLD", x.make(), CopyInserts.OTHER);
    }

    static void p06TheLeastNumbers() {
        CopyInserts x = new CopyInserts();
        Check.due("costs", x.costs(0, 0, 0, 0, 0), 5);
        for (int i = 8; i <= 12; i++) {
            Check.due("of(" + i + ")", x.of(i), 0);
        }
    }

    static void p06TheMostNumbers() {
        CopyInserts x = new CopyInserts();
        Check.due("costs", x.costs(100, 100, 100, 100, 100), 5);
        for (int i = 8; i <= 12; i++) {
            Check.due("of(" + i + ")", x.of(i), 100);
        }
    }

    private static int costs(CopyInserts x, int i, int value) {
        int[] c = {50, 50, 50, 50, 50};
        c[i] = value;
        return x.costs(c[0], c[1], c[2], c[3], c[4]);
    }

    /** The four others are right and would be other ones. */
    static void p06OneNumberTooSmall() {
        for (int i = 0; i < 5; i++) {
            int which = i;
            Refused.bad("number " + i + " of -1", Refused::rich, x -> costs(x, which, -1));
        }
    }

    static void p06OneNumberTooLarge() {
        for (int i = 0; i < 5; i++) {
            int which = i;
            Refused.bad("number " + i + " of 101", Refused::rich, x -> costs(x, which, 101));
        }
    }

    static void p06OneNumberAtItsBound() {
        for (int i = 0; i < 5; i++) {
            for (int bound : new int[] {0, 100}) {
                CopyInserts x = new CopyInserts();
                Check.due("number " + i + " of " + bound, costs(x, i, bound), 5);
                Check.due("it is", x.of(8 + i), bound);
            }
        }
    }

    static void p06FarOut() {
        for (int i = 0; i < 5; i++) {
            for (int wild : Refused.WILD) {
                int which = i;
                Refused.bad("number " + i + " of " + wild, Refused::rich, x -> costs(x, which, wild));
            }
        }
    }

    static void p06NoneIsAnother() {
        CopyInserts x = new CopyInserts();
        Check.due("the first ones", x.costs(4, 2, 4, 2, 3), 0);
        x.costs(9, 8, 7, 6, 5);
        Check.due("the same", x.costs(9, 8, 7, 6, 5), 0);
    }

    static void p06OneIsAnother() {
        for (int i = 0; i < 5; i++) {
            CopyInserts x = new CopyInserts();
            x.costs(50, 50, 50, 50, 50);
            Check.due("number " + i, costs(x, i, 51), 1);
            Check.due("it is", x.of(8 + i), 51);
        }
    }

    static void p06AllButOneAreOthers() {
        for (int i = 0; i < 5; i++) {
            CopyInserts x = new CopyInserts();
            x.costs(9, 9, 9, 9, 9);
            Check.due("all but number " + i, costs(x, i, 9), 4);
        }
    }

    static void p06TheActsStay() {
        CopyInserts x = new CopyInserts();
        Refused.rich(x);
        String plan = Texts.plan(x);
        int sum = x.of(7);
        x.costs(0, 0, 0, 0, 0);
        Check.dueText("THE PLAN", Texts.plan(x), plan);
        Check.due("its SUM", x.of(7), sum);
        Check.due("its COST", x.cost(), 0);
    }

    static void p10NoByteIsTheSame() {
        CopyInserts x = Texts.of("ab", "bx");
        Check.due("of OLD", x.match(0, 0, 0), 0);
        Check.due("of NEW", x.match(1, 0, 1), 0);
    }

    static void p10OneByteIsTheSame() {
        Check.due("of OLD", Texts.of("abc", "axc").match(0, 0, 0), 1);
        Check.due("of NEW", Texts.of("", "abax").match(1, 0, 2), 1);
    }

    static void p10ToTheEndOfOld() {
        CopyInserts x = Texts.of("abab", "ababab");
        Check.due("from its first place", x.match(0, 0, 0), 4);
        Check.due("from its last place", x.match(0, 3, 1), 1);
    }

    static void p10ToTheEndOfNew() {
        CopyInserts x = Texts.of("ababab", "abab");
        Check.due("from its first place", x.match(0, 0, 0), 4);
        Check.due("from its last place", x.match(0, 1, 3), 1);
    }

    static void p10ToTheEndsOfBoth() {
        Check.due("match(0, 0, 0)", Texts.of("abc", "abc").match(0, 0, 0), 3);
        CopyInserts x = new CopyInserts();
        for (int i = 0; i < 40; i++) {
            x.put(0, i);
            x.put(1, i);
        }
        Check.due("of full ones", x.match(0, 0, 0), 40);
        Check.due("of their last ones", x.match(0, 39, 39), 1);
    }

    static void p10OverOneAnother() {
        CopyInserts x = Texts.of("", "aaaaa");
        Check.due("match(1, 0, 1)", x.match(1, 0, 1), 4);
        Check.due("match(1, 1, 0)", x.match(1, 1, 0), 4);
        Check.due("match(1, 4, 0)", x.match(1, 4, 0), 1);
    }

    static void p10APlaceOfNewAndItself() {
        CopyInserts x = Texts.of("", "abc");
        Check.due("match(1, 0, 0)", x.match(1, 0, 0), 3);
        Check.due("match(1, 2, 2)", x.match(1, 2, 2), 1);
    }

    static void p10PlaceThatIsNoneOfThatText() {
        CopyInserts x = Texts.of("abc", "abcde");
        Check.due("behind OLD", x.match(0, 3, 0), BAD);
        Check.due("a place of NEW alone", x.match(0, 4, 0), BAD);
        Check.due("the same of NEW", x.match(1, 4, 0), 0);
        Check.due("behind NEW", x.match(1, 5, 0), BAD);
        Check.due("ahead of OLD", x.match(0, -1, 0), BAD);
        Check.due("ahead of NEW", x.match(1, -1, 0), BAD);
    }

    static void p10PlaceThatIsNoneOfNew() {
        CopyInserts x = Texts.of("abcde", "abc");
        Check.due("behind NEW", x.match(0, 0, 3), BAD);
        Check.due("a place of OLD alone", x.match(0, 0, 4), BAD);
        Check.due("behind NEW, of NEW", x.match(1, 0, 3), BAD);
        Check.due("ahead of NEW", x.match(0, 0, -1), BAD);
        Check.due("ahead of NEW, of NEW", x.match(1, 0, -1), BAD);
    }

    static void p10EmptyTexts() {
        Check.due("empty OLD", Texts.of("", "a").match(0, 0, 0), BAD);
        Check.due("empty OLD, of NEW", Texts.of("", "a").match(1, 0, 0), 1);
        Check.due("empty NEW", Texts.of("a", "").match(0, 0, 0), BAD);
        Check.due("empty NEW, of NEW", Texts.of("a", "").match(1, 0, 0), BAD);
    }

    static void p10TextThatIsNone() {
        Refused.bad("match(-1, 0, 0)", Refused::rich, x -> x.match(-1, 0, 0));
        Refused.bad("match(2, 0, 0)", Refused::rich, x -> x.match(2, 0, 0));
    }

    static void p10FarOut() {
        for (int wild : Refused.WILD) {
            Refused.bad("match(" + wild + ", 0, 0)", Refused::rich, x -> x.match(wild, 0, 0));
            Refused.bad("match(0, " + wild + ", 0)", Refused::rich, x -> x.match(0, wild, 0));
            Refused.bad("match(1, 0, " + wild + ")", Refused::rich, x -> x.match(1, 0, wild));
        }
    }

    static void p25WhatTooSmall() {
        Refused.bad("of(-1)", Refused::rich, x -> x.of(-1));
    }

    static void p25WhatTooLarge() {
        Check.due("of(12)", new CopyInserts().of(12), 3);
        Refused.bad("of(13)", Refused::rich, x -> x.of(13));
    }

    static void p25FarOut() {
        for (int wild : Refused.WILD) {
            Refused.bad("of(" + wild + ")", Refused::rich, x -> x.of(wild));
        }
    }

    static void p25FullOnes() {
        CopyInserts x = new CopyInserts();
        Refused.fullTexts(x);
        Check.due("of(0)", x.of(0), 40);
        Check.due("of(1)", x.of(1), 40);
        x.empty();
        x.add(0, 0, 40);
        x.add(1, 0, 40);
        x.make();
        Check.due("of(4)", x.of(4), 80);
        for (int k = 3; k <= 100; k++) {
            x.add(0, 0, 1);
        }
        Check.due("of(2)", x.of(2), 100);
        x.write();
        Check.due("of(3)", x.of(3), 202);
    }

    /** The last BYTE brings THE SUM to just below the modulus, to it, and beyond it. */
    static void p25SumWrapsAround() {
        int[] due = {65520, 0, 1};
        for (int i = 0; i < 3; i++) {
            CopyInserts x = new CopyInserts();
            Texts.put(x, 0, 37, 5, 17 + i);
            Texts.put(x, 1, 37, 5, 17 + i);
            Check.due("THE SUM of OLD", x.of(5), due[i]);
            Check.due("THE SUM of NEW", x.of(6), due[i]);
            x.empty();
            Check.due("that of THE PLAN", x.of(7), due[i]);
        }
    }

    static void p25SumOfOneByte() {
        CopyInserts x = new CopyInserts();
        x.put(0, 0);
        x.put(1, 255);
        Check.due("of OLD", x.of(5), 31);
        Check.due("of NEW", x.of(6), 286);
    }

    static void p25SumOfAFullText() {
        CopyInserts x = new CopyInserts();
        long sum = 1;
        for (int i = 0; i < 40; i++) {
            x.put(0, 255);
            sum = (sum * 31 + 255) % 65521;
        }
        Check.due("of OLD", x.of(5), sum);
    }

    static void p25SumOfThePlanIsItsOwn() {
        CopyInserts x = Texts.of("ab", "c");
        x.empty();
        int sum = x.of(5);
        x.put(0, 'd');
        Check.due("that of THE PLAN", x.of(7), sum);
        Check.due("THE SUM of OLD", x.of(5), (sum * 31 + 'd') % 65521);
    }

    static void p26FirstAndLastByte() {
        CopyInserts x = full(0);
        Check.due("at(0, 0)", x.at(0, 0), 1);
        Check.due("at(0, 39)", x.at(0, 39), 40);
    }

    static void p26NoSuchByte() {
        CopyInserts x = Texts.of("abc", "d");
        Check.due("at(0, 3)", x.at(0, 3), BAD);
        Check.due("at(1, 1)", x.at(1, 1), BAD);
        Check.due("at(0, -1)", x.at(0, -1), BAD);
        Check.due("at(1, -1)", x.at(1, -1), BAD);
        Check.due("behind a full one", full(1).at(1, 40), BAD);
    }

    static void p26EmptyText() {
        Check.due("OLD", Texts.of("", "a").at(0, 0), BAD);
        Check.due("NEW", Texts.of("a", "").at(1, 0), BAD);
    }

    static void p26ByteThatWasCut() {
        CopyInserts x = Texts.of("abc", "");
        x.cut(0, 1);
        Check.due("at(0, 2)", x.at(0, 2), BAD);
        Check.due("at(0, 1)", x.at(0, 1), 'b');
    }

    static void p26TextThatIsNone() {
        Refused.bad("at(-1, 0)", Refused::rich, x -> x.at(-1, 0));
        Refused.bad("at(2, 0)", Refused::rich, x -> x.at(2, 0));
    }

    static void p26FarOut() {
        for (int wild : Refused.WILD) {
            Refused.bad("at(0, " + wild + ")", Refused::rich, x -> x.at(0, wild));
            Refused.bad("at(1, " + wild + ")", Refused::rich, x -> x.at(1, wild));
            Refused.bad("at(" + wild + ", 0)", Refused::rich, x -> x.at(wild, 0));
        }
    }
}
