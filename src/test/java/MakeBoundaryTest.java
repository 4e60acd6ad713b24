/** The boundary cases of promises 16 to 18 and of when an ACT FAILS, one method each. */
public final class MakeBoundaryTest {
    private static final int FAULT = CopyInserts.FAULT, OTHER = CopyInserts.OTHER, NONE = CopyInserts.NONE;

    public static void main(String[] args) {
        Cases.run(MakeBoundaryTest.class, 16, 17, 18);
    }

    private static CopyInserts of(String old) {
        CopyInserts x = Texts.of(old, "");
        x.empty();
        return x;
    }

    private static CopyInserts laying(int count) {
        CopyInserts x = new CopyInserts();
        for (int i = 0; i < count; i++) {
            x.lay(i);
        }
        return x;
    }

    private static void makes(CopyInserts x, String due) {
        Check.due("make()", x.make(), due.length());
        Check.dueText("MADE", Texts.made(x), due);
    }

    private static void fails(CopyInserts x, int k, String ahead) {
        Check.due("make()", x.make(), FAULT - k);
        Check.dueText("MADE ahead of it", Texts.made(x), ahead);
    }

    static void p16NoActs() {
        makes(of("abc"), "");
        makes(new CopyInserts(), "");
    }

    static void p16NoActsInPlaceOfWhatWasMade() {
        CopyInserts x = laying(3);
        x.make();
        x.empty();
        makes(x, "");
    }

    static void p16CopyToTheEndOfOld() {
        CopyInserts x = of("abc");
        x.add(0, 0, 3);
        x.add(0, 2, 1);
        x.add(0, 1, 2);
        makes(x, "abccbc");
    }

    static void p16CopyOneBeyondOld() {
        for (int p = 0; p <= 3; p++) {
            CopyInserts x = of("abc");
            x.add(0, p, 4 - p);
            fails(x, 0, "");
        }
    }

    static void p16CopyFromBehindOld() {
        CopyInserts x = of("abc");
        x.add(0, 0, 3);
        x.add(0, 3, 1);
        fails(x, 1, "abc");
    }

    static void p16CopyFarBeyondOld() {
        CopyInserts x = of("abc");
        x.add(0, 79, 40);
        fails(x, 0, "");
    }

    static void p16CopyOfAnEmptyOld() {
        CopyInserts x = of("");
        x.add(0, 0, 1);
        fails(x, 0, "");
    }

    static void p16CopyOfAFullOld() {
        CopyInserts x = new CopyInserts();
        Refused.fullTexts(x);
        x.empty();
        x.add(0, 0, 40);
        x.add(0, 39, 1);
        Check.due("make()", x.make(), 41);
        Check.due("its last", x.made(40), 39 % 7);
        x.add(0, 1, 40);
        Check.due("one beyond", x.make(), FAULT - 2);
    }

    static void p16SelfOfTheLastByteMade() {
        CopyInserts x = of("abc");
        x.add(0, 0, 3);
        x.add(1, 2, 1);
        makes(x, "abcc");
    }

    static void p16SelfFromBehindWhatIsMade() {
        CopyInserts x = of("abc");
        x.add(0, 0, 3);
        x.add(1, 3, 1);
        fails(x, 1, "abc");
    }

    static void p16SelfOfNothing() {
        CopyInserts x = of("abc");
        x.add(1, 0, 1);
        fails(x, 0, "");
    }

    /** A make ahead of it has MADE enough, but it is what this one makes that counts. */
    static void p16SelfOfWhatWasMadeBefore() {
        CopyInserts x = of("abc");
        x.add(0, 0, 3);
        x.make();
        x.empty();
        x.add(1, 0, 1);
        fails(x, 0, "");
    }

    static void p16SelfTakesWhatItMakes() {
        CopyInserts x = of("abc");
        x.add(0, 0, 1);
        x.add(1, 0, 4);
        x.lay('-');
        x.add(1, 4, 5);
        makes(x, "aaaaa-a-a-a");
    }

    static void p16SelfUpToAllThatIsMade() {
        CopyInserts x = of("abc");
        x.add(0, 0, 3);
        x.add(1, 0, 3);
        x.add(1, 1, 6);
        makes(x, "abcabcbcabcb");
    }

    static void p16EightyBytesByCopy() {
        CopyInserts x = of("abcd");
        for (int k = 0; k < 20; k++) {
            x.add(0, 0, 4);
        }
        Check.due("make()", x.make(), 80);
        x.add(0, 3, 1);
        Check.due("one more", x.make(), FAULT - 20);
        Check.due("BYTES MADE", x.of(4), 80);
    }

    static void p16EightyBytesBySelf() {
        CopyInserts x = of("ab");
        x.add(0, 0, 2);
        x.add(1, 0, 40);
        x.add(1, 1, 38);
        Check.due("make()", x.make(), 80);
        x.add(1, 79, 1);
        Check.due("one more", x.make(), FAULT - 3);
        Check.due("BYTES MADE", x.of(4), 80);
    }

    static void p16EightyBytesByLay() {
        CopyInserts x = laying(80);
        Check.due("make()", x.make(), 80);
        Check.due("its last", x.made(79), 79);
        x.lay(80);
        Check.due("one more", x.make(), FAULT - 2);
        Check.due("BYTES MADE", x.of(4), 80);
    }

    /** The ACT that goes beyond 80 makes none of its BYTES. */
    static void p16OneBeyondEightyByALongAct() {
        CopyInserts copy = of("abc");
        copy.add(0, 0, 3);
        copy.add(1, 0, 40);
        copy.add(1, 0, 36);
        copy.add(0, 0, 2);
        Check.due("by COPY", copy.make(), FAULT - 3);
        Check.due("BYTES ahead of COPY", copy.of(4), 79);
        CopyInserts self = of("abc");
        self.add(0, 0, 3);
        self.add(1, 0, 38);
        self.add(1, 0, 40);
        Check.due("by SELF", self.make(), FAULT - 2);
        Check.due("BYTES ahead of SELF", self.of(4), 41);
        CopyInserts lay = of("a");
        lay.add(0, 0, 1);
        lay.add(1, 0, 40);
        for (int i = 0; i < 40; i++) {
            lay.lay(i);
        }
        Check.due("by LAY", lay.make(), FAULT - 2);
        Check.due("BYTES ahead of LAY", lay.of(4), 41);
    }

    static void p16TheLastActThatCanFail() {
        CopyInserts x = of("a");
        for (int k = 1; k <= 100; k++) {
            x.add(0, 0, 1);
        }
        Check.due("make()", x.make(), FAULT - 80);
        Check.due("BYTES MADE", x.of(4), 80);
    }

    static void p16TheFirstOfTwoThatFail() {
        CopyInserts x = of("ab");
        x.add(0, 0, 2);
        x.add(0, 2, 1);
        x.add(1, 79, 1);
        fails(x, 1, "ab");
        CopyInserts turned = of("ab");
        turned.add(1, 0, 1);
        turned.add(0, 2, 1);
        fails(turned, 0, "");
    }

    /** Behind the ACT that FAILS nothing is MADE, though it would not FAIL. */
    static void p16NothingBehindTheOneThatFails() {
        CopyInserts x = of("ab");
        x.add(0, 0, 1);
        x.add(0, 2, 1);
        x.add(0, 0, 2);
        fails(x, 1, "a");
    }

    static void p16AFaultTakesThePlaceOfWhatWasMade() {
        CopyInserts x = of("ab");
        x.add(0, 0, 2);
        x.make();
        x.empty();
        x.add(0, 0, 3);
        fails(x, 0, "");
        Check.due("made(0)", x.made(0), NONE);
    }

    static void p16AFaultLeavesAllButMade() {
        CopyInserts x = new CopyInserts();
        Refused.rich(x);
        x.empty();
        x.add(0, 0, 2);
        x.add(1, 2, 1);
        String ahead = Texts.text(x, 0) + Texts.text(x, 1) + Texts.plan(x) + x.of(7) + Texts.code(x);
        fails(x, 1, "ab");
        Check.dueText("all but MADE",
                Texts.text(x, 0) + Texts.text(x, 1) + Texts.plan(x) + x.of(7) + Texts.code(x), ahead);
    }

    static void p16OtherChangesNothing() {
        Refused.check("make()", Refused::rich, CopyInserts::make, OTHER);
    }

    static void p16OtherWithNoActs() {
        Refused.check("make()", x -> {
            x.lay(1);
            x.make();
            x.empty();
            x.put(0, 0);
        }, CopyInserts::make, OTHER);
    }

    static void p16OtherAheadOfAFault() {
        Refused.check("make()", x -> {
            x.lay(1);
            x.make();
            x.add(0, 79, 40);
            x.put(0, 0);
        }, CopyInserts::make, OTHER);
    }

    static void p16OtherByALesserAndAGreaterSum() {
        CopyInserts x = new CopyInserts();
        x.put(0, 7);
        x.empty();
        x.cut(0, 1);
        x.put(0, 6);
        Check.due("a lesser one", x.make(), OTHER);
        x.cut(0, 1);
        x.put(0, 8);
        Check.due("a greater one", x.make(), OTHER);
        x.cut(0, 1);
        x.put(0, 7);
        Check.due("the same one again", x.make(), 0);
    }

    /** 0, 31 and 1, 0 are TEXTS of one SUM: it is THE SUM that counts, not the BYTES. */
    static void p16AnotherOldOfTheSameSum() {
        CopyInserts x = new CopyInserts();
        Texts.put(x, 0, 0, 31);
        x.empty();
        x.add(0, 0, 2);
        x.cut(0, 2);
        Texts.put(x, 0, 1, 0);
        Check.due("make()", x.make(), 2);
        Check.due("made(0)", x.made(0), 1);
        Check.due("made(1)", x.made(1), 0);
    }

    /** 37, 5, 19 come to 1 by the modulus, as an empty OLD does. */
    static void p16AnOldWhoseSumWrapsToThatOfAnEmptyOne() {
        CopyInserts x = new CopyInserts();
        x.add(0, 2, 1);
        Check.due("of the empty OLD", x.make(), FAULT);
        Texts.put(x, 0, 37, 5, 19);
        Check.due("of the other one", x.make(), 1);
        Check.due("made(0)", x.made(0), 19);
    }

    /** 65522 is 1 by the modulus, but THE PLAN's SUM is taken as it is. */
    static void p16ASumBeyondTheModulusIsOther() {
        CopyInserts x = new CopyInserts();
        x.write();
        x.poke(0, 255);
        x.poke(1, 242);
        Check.due("read()", x.read(), 0);
        Check.due("its SUM", x.of(7), 65522);
        Check.due("make()", x.make(), OTHER);
    }

    static void p16OtherByOneByteOfTheSum() {
        CopyInserts higher = new CopyInserts();
        higher.write();
        higher.poke(0, 1);
        higher.read();
        Check.due("the higher", higher.make(), OTHER);
        CopyInserts lower = new CopyInserts();
        lower.write();
        lower.poke(1, 0);
        lower.read();
        Check.due("the lower", lower.make(), OTHER);
    }

    static void p16NewDoesNotMatter() {
        CopyInserts x = of("ab");
        x.add(0, 0, 2);
        x.put(1, 'z');
        makes(x, "ab");
    }

    static void p17NothingWasMade() {
        CopyInserts x = Texts.of("ab", "ab");
        x.plan();
        Check.due("made(0)", x.made(0), NONE);
        Check.due("made(-1)", x.made(-1), NONE);
    }

    static void p17FirstAndLastByte() {
        CopyInserts x = laying(80);
        x.make();
        Check.due("made(0)", x.made(0), 0);
        Check.due("made(79)", x.made(79), 79);
        Check.due("made(80)", x.made(80), NONE);
    }

    static void p17BehindTheLast() {
        CopyInserts x = laying(3);
        x.make();
        Check.due("made(2)", x.made(2), 2);
        Check.due("made(3)", x.made(3), NONE);
    }

    static void p17AheadOfTheFirst() {
        CopyInserts x = laying(3);
        x.make();
        Check.due("made(-1)", x.made(-1), NONE);
    }

    static void p17LeastAndMostValue() {
        CopyInserts x = new CopyInserts();
        x.lay(255);
        x.lay(0);
        x.make();
        Check.due("made(0)", x.made(0), 255);
        Check.due("made(1)", x.made(1), 0);
    }

    static void p17FarOut() {
        for (int wild : Refused.WILD) {
            Refused.check("made(" + wild + ")", Refused::rich, x -> x.made(wild), NONE);
        }
    }

    static void p17BehindWhatWasMadeAheadOfAFault() {
        CopyInserts x = of("abc");
        x.add(0, 0, 3);
        x.make();
        x.empty();
        x.add(0, 1, 1);
        x.add(0, 3, 1);
        x.make();
        Check.due("made(0)", x.made(0), 'b');
        Check.due("made(1)", x.made(1), NONE);
    }

    static void p17TheLastOneIsLeftByOther() {
        CopyInserts x = laying(2);
        x.make();
        x.lay(9);
        x.put(0, 1);
        x.make();
        Check.due("made(1)", x.made(1), 1);
        Check.due("made(2)", x.made(2), NONE);
    }

    static void p18NothingAndAnEmptyNew() {
        Check.due("isNew()", new CopyInserts().isNew(), 1);
        Check.due("with an OLD", Texts.of("a", "").isNew(), 1);
    }

    static void p18NothingAndANewOfOne() {
        Check.due("isNew()", Texts.of("", "a").isNew(), 0);
        CopyInserts zero = new CopyInserts();
        zero.put(1, 0);
        Check.due("of a BYTE 0", zero.isNew(), 0);
    }

    static void p18SomethingAndAnEmptyNew() {
        CopyInserts x = laying(1);
        x.make();
        Check.due("isNew()", x.isNew(), 0);
    }

    private static int isNew(String made, String fresh) {
        CopyInserts x = Texts.of("", fresh);
        for (int i = 0; i < made.length(); i++) {
            x.lay(made.charAt(i));
        }
        x.make();
        return x.isNew();
    }

    static void p18OneMoreOrOneLess() {
        Check.due("one less", isNew("abc", "abcd"), 0);
        Check.due("the same", isNew("abcd", "abcd"), 1);
        Check.due("one more", isNew("abcde", "abcd"), 0);
        Check.due("one more, a BYTE 0", isNew("abc\0", "abc"), 0);
    }

    static void p18OneByteIsAnother() {
        Check.due("the first", isNew("xbc", "abc"), 0);
        Check.due("the last", isNew("abx", "abc"), 0);
        Check.due("the only one", isNew("x", "a"), 0);
    }

    static void p18FullNew() {
        String forty = "abcdefghijklmnopqrstuvwxyz0123456789ABCD";
        Check.due("the same", isNew(forty, forty), 1);
        Check.due("the last is another", isNew(forty.substring(0, 39) + "x", forty), 0);
        Check.due("39 of it", isNew(forty.substring(0, 39), forty), 0);
        Check.due("80 that begin so", isNew(forty + forty, forty), 0);
    }

    static void p18WhatAFaultLeft() {
        CopyInserts x = Texts.of("ab", "ab");
        x.empty();
        x.add(0, 0, 2);
        x.add(0, 2, 1);
        Check.due("make()", x.make(), FAULT - 1);
        Check.due("isNew()", x.isNew(), 1);
    }

    static void p18NewAsItIsNow() {
        CopyInserts x = Texts.of("", "ab");
        x.plan();
        x.make();
        Check.due("ahead", x.isNew(), 1);
        x.put(1, 'c');
        Check.due("NEW has one more", x.isNew(), 0);
        x.cut(1, 1);
        Check.due("and less again", x.isNew(), 1);
        x.turn();
        Check.due("OLD in its place", x.isNew(), 0);
    }
}
