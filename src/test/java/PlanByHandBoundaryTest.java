/** The boundary cases of promises 11 to 15, one method each. */
public final class PlanByHandBoundaryTest {
    private static final int BAD = CopyInserts.BAD, FULL = CopyInserts.FULL, NONE = CopyInserts.NONE;

    public static void main(String[] args) {
        Cases.run(PlanByHandBoundaryTest.class, 11, 12, 13, 14, 15);
    }

    private static CopyInserts laying(int count) {
        CopyInserts x = new CopyInserts();
        for (int i = 0; i < count; i++) {
            x.lay(i);
        }
        return x;
    }

    /** A full PLAN whose last ACT is a LAY of some BYTES. */
    private static void lastLays(CopyInserts x, int count) {
        for (int k = 1; k <= 99; k++) {
            x.add(1, 0, 1);
        }
        for (int i = 0; i < count; i++) {
            Check.due("byte " + i + " of the 100th ACT", x.lay(i), 100);
        }
    }

    static void p11FirstAndLastAct() {
        CopyInserts x = new CopyInserts();
        x.add(0, 7, 3);
        x.add(1, 8, 4);
        Check.due("n of the first", x.act(0, 1), 3);
        Check.due("n of the last", x.act(1, 1), 4);
        Check.due("behind the last", x.act(2, 1), BAD);
        Check.due("ahead of the first", x.act(-1, 1), BAD);
    }

    static void p11The100thAct() {
        CopyInserts x = new CopyInserts();
        Refused.fullPlan(x);
        Check.due("its KIND", x.act(99, 0), 1);
        Check.due("its p", x.act(99, 2), 1);
        for (int what = 0; what <= 4; what++) {
            Check.due("a 101st, " + what, x.act(100, what), BAD);
        }
    }

    static void p11NoActs() {
        CopyInserts x = new CopyInserts();
        for (int what = 0; what <= 4; what++) {
            Check.due("act(0, " + what + ")", x.act(0, what), BAD);
        }
        x.lay(1);
        x.empty();
        Check.due("behind empty()", x.act(0, 0), BAD);
    }

    static void p11WhatTooSmall() {
        Refused.bad("act(0, -1)", Refused::rich, x -> x.act(0, -1));
    }

    static void p11WhatTooLarge() {
        Refused.bad("act(0, 5)", Refused::rich, x -> x.act(0, 5));
    }

    static void p11FarOut() {
        for (int wild : Refused.WILD) {
            Refused.bad("act(" + wild + ", 0)", Refused::rich, x -> x.act(wild, 0));
            Refused.bad("act(" + wild + ", 3)", Refused::rich, x -> x.act(wild, 3));
            Refused.bad("act(0, " + wild + ")", Refused::rich, x -> x.act(0, wild));
        }
    }

    static void p11KindsTellThemselves() {
        CopyInserts x = new CopyInserts();
        x.add(0, 0, 1);
        x.add(1, 0, 1);
        x.lay(0);
        for (int kind = 0; kind <= 2; kind++) {
            Check.due("KIND of ACT " + kind, x.act(kind, 0), kind);
        }
    }

    static void p11LayHasNoPlace() {
        CopyInserts x = new CopyInserts();
        x.lay(0);
        Check.due("p", x.act(0, 2), NONE);
        x.write();
        x.read();
        Check.due("p of one that was read", x.act(0, 2), NONE);
        x.put(1, 5);
        x.plan();
        Check.due("p of THE BEST PLAN's", x.act(0, 2), NONE);
    }

    static void p11LeastAndMostOfAnAct() {
        CopyInserts x = new CopyInserts();
        x.add(0, 0, 1);
        x.add(0, 79, 40);
        Check.due("the least n", x.act(0, 1), 1);
        Check.due("the least p", x.act(0, 2), 0);
        Check.due("the most n", x.act(1, 1), 40);
        Check.due("the most p", x.act(1, 2), 79);
        Check.due("n of a LAY of 40", laying(40).act(0, 1), 40);
    }

    static void p11SpotAheadOfTheFirstActIsZero() {
        CopyInserts x = new CopyInserts();
        x.add(0, 5, 3);
        Check.due("of a COPY", x.act(0, 3), 0);
        CopyInserts lay = new CopyInserts();
        lay.lay(1);
        lay.add(1, 9, 9);
        Check.due("of a LAY", lay.act(0, 3), 0);
        Check.due("of a SELF behind it", lay.act(1, 3), 0);
    }

    static void p11SpotIsBehindTheLastCopy() {
        CopyInserts x = new CopyInserts();
        x.add(0, 5, 3);
        x.add(1, 20, 2);
        x.lay(1);
        x.add(0, 2, 2);
        x.lay(1);
        Check.due("behind the COPY", x.act(1, 3), 8);
        Check.due("behind the SELF", x.act(2, 3), 8);
        Check.due("behind the LAY", x.act(3, 3), 8);
        Check.due("behind a COPY further back", x.act(4, 3), 4);
    }

    static void p11SpotBeyondOld() {
        CopyInserts x = new CopyInserts();
        x.add(0, 79, 40);
        x.lay(1);
        Check.due("the most", x.act(1, 3), 119);
    }

    static void p11CostOfACopyAtTheSpotAndBesideIt() {
        CopyInserts x = new CopyInserts();
        x.add(0, 0, 4);
        x.add(0, 4, 2);
        x.add(0, 5, 2);
        x.add(0, 8, 1);
        Check.due("at 0 at first", x.act(0, 4), 4);
        Check.due("at it", x.act(1, 4), 4);
        Check.due("one below it", x.act(2, 4), 6);
        Check.due("one above it", x.act(3, 4), 6);
        CopyInserts away = new CopyInserts();
        away.add(0, 1, 1);
        Check.due("at 1 at first", away.act(0, 4), 6);
    }

    static void p11CostOfSelfIsOfNoSpot() {
        CopyInserts x = new CopyInserts();
        x.add(1, 0, 40);
        x.add(1, 79, 1);
        Check.due("p 0, n 40", x.act(0, 4), 4);
        Check.due("p 79, n 1", x.act(1, 4), 4);
    }

    static void p11CostOfTheShortestAndLongestLay() {
        Check.due("of one", laying(1).act(0, 4), 5);
        Check.due("of 40", laying(40).act(0, 4), 122);
    }

    static void p11CostByTheNumbersOfNow() {
        CopyInserts x = new CopyInserts();
        x.add(0, 1, 1);
        x.add(1, 0, 1);
        x.lay(1);
        x.costs(0, 0, 0, 0, 0);
        for (int k = 0; k < 3; k++) {
            Check.due("of ACT " + k + " by 0", x.act(k, 4), 0);
        }
        x.costs(100, 100, 100, 100, 100);
        Check.due("COPY by 100", x.act(0, 4), 200);
        Check.due("SELF by 100", x.act(1, 4), 100);
        Check.due("LAY by 100", x.act(2, 4), 200);
    }

    static void p12FirstAndLastByte() {
        CopyInserts x = laying(40);
        Check.due("laid(0, 0)", x.laid(0, 0), 0);
        Check.due("laid(0, 39)", x.laid(0, 39), 39);
    }

    static void p12LeastAndMostValue() {
        CopyInserts x = new CopyInserts();
        x.lay(0);
        x.lay(255);
        Check.due("0", x.laid(0, 0), 0);
        Check.due("255", x.laid(0, 1), 255);
    }

    static void p12NoSuchAct() {
        Refused.bad("laid(-1, 0)", Refused::rich, x -> x.laid(-1, 0));
        CopyInserts x = laying(1);
        Check.due("laid(1, 0)", x.laid(1, 0), BAD);
        Check.due("of no ACTS", new CopyInserts().laid(0, 0), BAD);
        x.empty();
        Check.due("behind empty()", x.laid(0, 0), BAD);
    }

    static void p12NoLay() {
        CopyInserts x = new CopyInserts();
        x.add(0, 0, 1);
        x.add(1, 0, 1);
        x.lay(7);
        Check.due("a COPY", x.laid(0, 0), BAD);
        Check.due("a SELF", x.laid(1, 0), BAD);
        Check.due("a LAY", x.laid(2, 0), 7);
    }

    static void p12NoSuchByte() {
        CopyInserts x = laying(3);
        Check.due("laid(0, 2)", x.laid(0, 2), 2);
        Check.due("laid(0, 3)", x.laid(0, 3), BAD);
        Check.due("laid(0, -1)", x.laid(0, -1), BAD);
    }

    static void p12BytesOfTheLayBehind() {
        CopyInserts x = laying(41);
        Check.due("laid(0, 40)", x.laid(0, 40), BAD);
        Check.due("laid(1, 0)", x.laid(1, 0), 40);
        Check.due("laid(1, 1)", x.laid(1, 1), BAD);
        Check.due("laid(1, -1)", x.laid(1, -1), BAD);
    }

    static void p12FarOut() {
        for (int wild : Refused.WILD) {
            Refused.bad("laid(" + wild + ", 0)", Refused::rich, x -> x.laid(wild, 0));
            Refused.bad("laid(1, " + wild + ")", Refused::rich, x -> x.laid(1, wild));
        }
    }

    static void p13EmptyOfNoActs() {
        CopyInserts x = Texts.of("ab", "");
        Check.due("empty()", x.empty(), 0);
        Check.due("THE SUM is that of OLD all the same", x.of(7), x.of(5));
    }

    static void p13EmptyOfAFullPlan() {
        CopyInserts x = new CopyInserts();
        Refused.fullPlan(x);
        Check.due("empty()", x.empty(), 100);
        Check.due("ACTS", x.of(2), 0);
        Check.due("room for one", x.add(0, 0, 1), 1);
    }

    static void p13EmptyAgain() {
        CopyInserts x = laying(1);
        x.empty();
        Check.due("empty()", x.empty(), 0);
    }

    static void p13SumOfOld() {
        CopyInserts x = new CopyInserts();
        Texts.put(x, 0, 37, 5, 17);
        Check.due("ahead", x.of(7), 1);
        x.empty();
        Check.due("behind", x.of(7), 65520);
        x.cut(0, 3);
        x.empty();
        Check.due("of an empty OLD", x.of(7), 1);
    }

    static void p13CodeAndMadeStay() {
        CopyInserts x = new CopyInserts();
        Refused.rich(x);
        String ahead = Texts.code(x) + Texts.made(x);
        x.empty();
        Check.dueText("CODE and MADE", Texts.code(x) + Texts.made(x), ahead);
    }

    static void p13LayBehindItBegins() {
        CopyInserts x = laying(5);
        x.empty();
        Check.due("lay(9)", x.lay(9), 1);
        Check.due("its n", x.act(0, 1), 1);
        Check.due("its byte", x.laid(0, 0), 9);
    }

    static void p14KindTooSmall() {
        Refused.bad("add(-1, 0, 1)", Refused::rich, x -> x.add(-1, 0, 1));
    }

    static void p14KindTooLarge() {
        Refused.bad("add(2, 0, 1)", Refused::rich, x -> x.add(2, 0, 1));
        Refused.bad("add(3, 0, 1)", Refused::rich, x -> x.add(3, 0, 1));
    }

    static void p14PlaceAtItsBounds() {
        for (int kind = 0; kind <= 1; kind++) {
            CopyInserts x = new CopyInserts();
            Check.due("p 0", x.add(kind, 0, 1), 1);
            Check.due("p 79", x.add(kind, 79, 1), 2);
            Check.due("it is 79", x.act(1, 2), 79);
        }
    }

    static void p14PlaceTooSmall() {
        Refused.bad("add(0, -1, 1)", Refused::rich, x -> x.add(0, -1, 1));
        Refused.bad("add(1, -1, 1)", Refused::rich, x -> x.add(1, -1, 1));
    }

    static void p14PlaceTooLarge() {
        Refused.bad("add(0, 80, 1)", Refused::rich, x -> x.add(0, 80, 1));
        Refused.bad("add(1, 80, 1)", Refused::rich, x -> x.add(1, 80, 1));
    }

    static void p14CountAtItsBounds() {
        for (int kind = 0; kind <= 1; kind++) {
            CopyInserts x = new CopyInserts();
            Check.due("n 1", x.add(kind, 0, 1), 1);
            Check.due("n 40", x.add(kind, 0, 40), 2);
            Check.due("it is 40", x.act(1, 1), 40);
        }
    }

    static void p14CountTooSmall() {
        Refused.bad("add(0, 0, 0)", Refused::rich, x -> x.add(0, 0, 0));
        Refused.bad("add(1, 0, 0)", Refused::rich, x -> x.add(1, 0, 0));
    }

    static void p14CountTooLarge() {
        Refused.bad("add(0, 0, 41)", Refused::rich, x -> x.add(0, 0, 41));
        Refused.bad("add(1, 0, 41)", Refused::rich, x -> x.add(1, 0, 41));
    }

    static void p14FarOut() {
        for (int wild : Refused.WILD) {
            Refused.bad("add(" + wild + ", 0, 1)", Refused::rich, x -> x.add(wild, 0, 1));
            Refused.bad("add(0, " + wild + ", 1)", Refused::rich, x -> x.add(0, wild, 1));
            Refused.bad("add(1, 0, " + wild + ")", Refused::rich, x -> x.add(1, 0, wild));
        }
    }

    static void p14The100thAndNoMore() {
        CopyInserts x = new CopyInserts();
        for (int k = 1; k <= 99; k++) {
            x.add(k % 2, 0, 1);
        }
        Check.due("the 100th", x.add(0, 5, 6), 100);
        Check.due("a COPY more", x.add(0, 0, 1), FULL);
        Check.due("a SELF more", x.add(1, 0, 1), FULL);
        Check.due("ACTS", x.of(2), 100);
    }

    static void p14FullChangesNothing() {
        Refused.full("add(0, 0, 1)", Refused::fullPlan, x -> x.add(0, 0, 1));
        Refused.full("add(1, 79, 40)", Refused::fullPlan, x -> x.add(1, 79, 40));
    }

    static void p14BadAheadOfFull() {
        Refused.bad("kind 2", Refused::fullPlan, x -> x.add(2, 0, 1));
        Refused.bad("kind -1", Refused::fullPlan, x -> x.add(-1, 0, 1));
        Refused.bad("p 80", Refused::fullPlan, x -> x.add(0, 80, 1));
        Refused.bad("p -1", Refused::fullPlan, x -> x.add(1, -1, 1));
        Refused.bad("n 41", Refused::fullPlan, x -> x.add(0, 0, 41));
        Refused.bad("n 0", Refused::fullPlan, x -> x.add(1, 0, 0));
    }

    static void p14ItNeedNotFit() {
        CopyInserts x = new CopyInserts();
        Check.due("a COPY beyond OLD", x.add(0, 0, 40), 1);
        Check.due("a SELF of what is not made", x.add(1, 79, 40), 2);
        Check.due("more than 80 BYTES", x.add(1, 0, 40), 3);
    }

    static void p14TheSumStays() {
        CopyInserts x = Texts.of("ab", "");
        Check.due("add", x.add(0, 0, 2), 1);
        Check.due("that of THE PLAN", x.of(7), 1);
        Check.due("make()", x.make(), CopyInserts.OTHER);
    }

    static void p15ValueAtItsBounds() {
        CopyInserts x = new CopyInserts();
        Check.due("lay(0)", x.lay(0), 1);
        Check.due("lay(255)", x.lay(255), 1);
        Check.due("the first", x.laid(0, 0), 0);
        Check.due("the second", x.laid(0, 1), 255);
    }

    /** The new object shows that no ACT is begun, the rich one that no BYTE is laid. */
    static void p15ValueTooSmall() {
        Refused.bad("lay(-1)", Refused::rich, x -> x.lay(-1));
        Refused.bad("lay(-1) of a new one", x -> { }, x -> x.lay(-1));
    }

    static void p15ValueTooLarge() {
        Refused.bad("lay(256)", Refused::rich, x -> x.lay(256));
        Refused.bad("lay(256) of a new one", x -> { }, x -> x.lay(256));
    }

    static void p15FarOut() {
        for (int wild : Refused.WILD) {
            Refused.bad("lay(" + wild + ")", Refused::rich, x -> x.lay(wild));
        }
    }

    static void p15The40thByteAndTheOneBehindIt() {
        CopyInserts x = laying(39);
        Check.due("the 40th", x.lay(200), 1);
        Check.due("n", x.act(0, 1), 40);
        Check.due("the 41st", x.lay(201), 2);
        Check.due("n of the first", x.act(0, 1), 40);
        Check.due("n of the second", x.act(1, 1), 1);
        Check.due("the 42nd", x.lay(202), 2);
        Check.due("it lies in the second", x.laid(1, 1), 202);
    }

    static void p15The80thByteAndTheOneBehindIt() {
        CopyInserts x = laying(79);
        Check.due("the 80th", x.lay(1), 2);
        Check.due("the 81st", x.lay(1), 3);
    }

    static void p15BehindACopyAndASelf() {
        CopyInserts x = new CopyInserts();
        x.lay(1);
        x.add(0, 0, 1);
        Check.due("behind a COPY", x.lay(2), 3);
        x.add(1, 0, 1);
        Check.due("behind a SELF", x.lay(3), 5);
        Check.due("the first stays", x.act(0, 1), 1);
        Check.due("the third stays", x.act(2, 1), 1);
        Check.due("the fifth lays", x.laid(4, 0), 3);
    }

    static void p15BehindTheBestPlan() {
        CopyInserts lays = Texts.of("", "ab");
        lays.plan();
        Check.due("whose last is a LAY", lays.lay('c'), 1);
        Check.dueText("THE PLAN", Texts.plan(lays), "L abc");
        CopyInserts copies = Texts.of("ab", "ab");
        copies.plan();
        Check.due("whose last is a COPY", copies.lay('c'), 2);
        Check.dueText("THE PLAN", Texts.plan(copies), "C 0 2, L c");
    }

    static void p15BehindWhatWasRead() {
        for (int count = 39; count <= 40; count++) {
            CopyInserts x = laying(count);
            x.write();
            x.empty();
            x.read();
            Check.due("a LAY of " + count, x.lay(9), count == 39 ? 1 : 2);
        }
    }

    static void p15The100thActLaysOn() {
        CopyInserts x = new CopyInserts();
        lastLays(x, 40);
        Check.due("n", x.act(99, 1), 40);
        Check.due("its last", x.laid(99, 39), 39);
    }

    static void p15FullBehindA100thActThatIsNoLay() {
        Refused.full("lay(1)", Refused::fullPlan, x -> x.lay(1));
        Refused.full("lay(0)", Refused::fullPlan, x -> x.lay(0));
    }

    static void p15FullBehindA100thActThatLays40() {
        Refused.full("lay(1)", x -> lastLays(x, 40), x -> x.lay(1));
    }

    static void p15BadAheadOfFull() {
        Refused.bad("lay(256)", Refused::fullPlan, x -> x.lay(256));
        Refused.bad("lay(-1)", Refused::fullPlan, x -> x.lay(-1));
        Refused.bad("lay(256) behind 40", x -> lastLays(x, 40), x -> x.lay(256));
    }

    /** An object is good for 512 calls: the last of them is answered as all others are. */
    static void p15AsManyAs512Calls() {
        CopyInserts x = new CopyInserts();
        for (int i = 1; i <= 512; i++) {
            Check.due("lay " + i, x.lay(i % 256), (i + 39) / 40);
        }
    }

    static void p15TheSumStays() {
        CopyInserts x = Texts.of("ab", "");
        Check.due("lay", x.lay(1), 1);
        Check.due("that of THE PLAN", x.of(7), 1);
        Check.due("make()", x.make(), CopyInserts.OTHER);
    }
}
