/** The boundary cases of promises 19 to 23, one method each. */
public final class CodeBoundaryTest {
    private static final int BAD = CopyInserts.BAD, FAULT = CopyInserts.FAULT, NONE = CopyInserts.NONE;

    public static void main(String[] args) {
        Cases.run(CodeBoundaryTest.class, 19, 20, 21, 22, 23);
    }

    /**
     * THE PLAN is another one than CODE's, so that it can be seen whether it stays. CODE is written
     * of LAYS of 40, and only what does not come by them is poked, to spare calls.
     */
    private static void withCode(CopyInserts x, int... bytes) {
        int size = 2;
        for (int j = 0; size < bytes.length; j++) {
            size += j % 40 == 0 ? 2 : 1;
            x.lay(size <= bytes.length ? bytes[size - 1] : 0);
        }
        x.write();
        x.shorten(size - bytes.length);
        for (int i = 0; i < bytes.length; i++) {
            if (i < 2 || (i - 2) % 41 == 0) {
                x.poke(i, bytes[i]);
            }
        }
        x.empty();
        x.add(0, 7, 7);
        x.lay(77);
    }

    private static CopyInserts coded(int... bytes) {
        CopyInserts x = new CopyInserts();
        withCode(x, bytes);
        StringBuilder due = new StringBuilder();
        for (int i = 0; i < bytes.length; i++) {
            due.append(i == 0 ? "" : " ").append(bytes[i]);
        }
        Check.dueText("CODE", Texts.code(x), due.toString());
        return x;
    }

    private static void reads(String plan, int acts, int... bytes) {
        CopyInserts x = coded(bytes);
        Check.due("read()", x.read(), acts);
        Check.dueText("THE PLAN", Texts.plan(x), plan);
        Check.due("its SUM", x.of(7), bytes[0] * 256 + bytes[1]);
        Check.due("CODE stays", x.of(3), bytes.length);
    }

    private static void faultAt(int place, int... bytes) {
        coded(bytes);
        Refused.check("read()", x -> withCode(x, bytes), CopyInserts::read, FAULT - place);
    }

    /** So many ACTS of two bytes each, and some bytes of a further one. */
    private static int[] acts(int count, int... further) {
        int[] bytes = new int[2 + 2 * count + further.length];
        bytes[1] = 1;
        for (int k = 0; k < count; k++) {
            bytes[2 + 2 * k] = 65;
        }
        System.arraycopy(further, 0, bytes, 2 + 2 * count, further.length);
        return bytes;
    }

    static void p19NoActs() {
        CopyInserts x = new CopyInserts();
        Check.due("write()", x.write(), 2);
        Check.dueText("CODE", Texts.code(x), "0 1");
    }

    private static void sumIsWritten(String due, int... old) {
        CopyInserts x = new CopyInserts();
        Texts.put(x, 0, old);
        x.empty();
        x.write();
        Check.dueText("CODE", Texts.code(x), due);
    }

    static void p19TheHigherByteFirst() {
        sumIsWritten("120 97", 1, 2, 3);
    }

    static void p19SumsAroundABytesEnd() {
        sumIsWritten("0 255", 224);
        sumIsWritten("1 0", 225);
    }

    static void p19SumsAroundTheModulus() {
        sumIsWritten("255 240", 37, 5, 17);
        sumIsWritten("0 0", 37, 5, 18);
        sumIsWritten("0 1", 37, 5, 19);
    }

    static void p19TheSumIsThePlansOwn() {
        CopyInserts x = new CopyInserts();
        x.put(0, 5);
        x.write();
        Check.dueText("CODE", Texts.code(x), "0 1");
    }

    static void p19ASumThatNoOldHas() {
        CopyInserts x = coded(255, 255);
        x.read();
        Check.due("write()", x.write(), 2);
        Check.dueText("CODE", Texts.code(x), "255 255");
    }

    static void p19LeastAndMostOfACopy() {
        CopyInserts x = new CopyInserts();
        x.add(0, 0, 1);
        x.add(0, 79, 40);
        Check.due("write()", x.write(), 6);
        Check.dueText("CODE", Texts.code(x), "0 1 1 0 40 79");
    }

    static void p19LeastAndMostOfASelf() {
        CopyInserts x = new CopyInserts();
        x.add(1, 0, 1);
        x.add(1, 79, 40);
        Check.due("write()", x.write(), 6);
        Check.dueText("CODE", Texts.code(x), "0 1 65 0 104 79");
    }

    static void p19LeastAndMostOfALay() {
        CopyInserts x = new CopyInserts();
        x.lay(255);
        Check.due("of one", x.write(), 4);
        Check.dueText("CODE of one", Texts.code(x), "0 1 129 255");
        for (int i = 2; i <= 40; i++) {
            x.lay(0);
        }
        Check.due("of 40", x.write(), 43);
        Check.due("its first byte", x.code(2), 168);
        x.lay(9);
        Check.due("of 41", x.write(), 45);
        Check.due("first byte of the second", x.code(43), 129);
        Check.due("its BYTE", x.code(44), 9);
    }

    static void p19AFullPlan() {
        CopyInserts x = new CopyInserts();
        for (int k = 1; k <= 100; k++) {
            x.add(k % 2, 79, 40);
        }
        Check.due("write()", x.write(), 202);
        Check.due("first of the last ACT", x.code(200), 40);
        Check.due("the last byte", x.code(201), 79);
    }

    /** As many LAYS as 400 calls can make, in ACTS as long as they can be. */
    static void p19LongLays() {
        CopyInserts x = new CopyInserts();
        for (int i = 0; i < 400; i++) {
            x.lay(i % 256);
        }
        Check.due("write()", x.write(), 2 + 10 * 41);
        Check.due("the last byte", x.code(411), 399 % 256);
        Check.due("behind it", x.code(412), NONE);
        x.empty();
        Check.due("read()", x.read(), 10);
        Check.due("laid(9, 39)", x.laid(9, 39), 399 % 256);
    }

    static void p19InPlaceOfLongerCode() {
        CopyInserts x = coded(1, 2, 3, 4, 5, 6, 7, 8);
        x.empty();
        Check.due("write()", x.write(), 2);
        Check.due("code(2)", x.code(2), NONE);
        Check.due("read()", x.read(), 0);
    }

    static void p19ThePlanStays() {
        CopyInserts x = new CopyInserts();
        Refused.rich(x);
        String ahead = Texts.plan(x) + x.of(7);
        x.write();
        Check.dueText("THE PLAN", Texts.plan(x) + x.of(7), ahead);
    }

    static void p20NothingWasWritten() {
        Check.due("code(0)", new CopyInserts().code(0), NONE);
        Check.due("code(-1)", new CopyInserts().code(-1), NONE);
    }

    static void p20FirstAndLastByte() {
        CopyInserts x = coded(9, 8, 7);
        Check.due("code(0)", x.code(0), 9);
        Check.due("code(2)", x.code(2), 7);
    }

    static void p20AheadOfTheFirst() {
        Check.due("code(-1)", coded(9, 8, 7).code(-1), NONE);
    }

    static void p20BehindTheLast() {
        Check.due("code(3)", coded(9, 8, 7).code(3), NONE);
    }

    static void p20BytesThatWereShortened() {
        CopyInserts x = coded(9, 8, 7);
        x.shorten(1);
        Check.due("code(1)", x.code(1), 8);
        Check.due("code(2)", x.code(2), NONE);
    }

    static void p20FarOut() {
        for (int wild : Refused.WILD) {
            Refused.check("code(" + wild + ")", Refused::rich, x -> x.code(wild), NONE);
        }
    }

    static void p21FirstAndLastByte() {
        CopyInserts x = coded(9, 8, 7);
        Check.due("poke(0, 1)", x.poke(0, 1), 9);
        Check.due("poke(2, 3)", x.poke(2, 3), 7);
        Check.dueText("CODE", Texts.code(x), "1 8 3");
    }

    static void p21ValueAtItsBounds() {
        CopyInserts x = coded(9, 8, 7);
        Check.due("poke(1, 0)", x.poke(1, 0), 8);
        Check.due("poke(1, 255)", x.poke(1, 255), 0);
        Check.due("poke(1, 255) again", x.poke(1, 255), 255);
        Check.due("code(1)", x.code(1), 255);
    }

    static void p21ValueTooSmall() {
        Refused.bad("poke(0, -1)", Refused::rich, x -> x.poke(0, -1));
    }

    static void p21ValueTooLarge() {
        Refused.bad("poke(0, 256)", Refused::rich, x -> x.poke(0, 256));
    }

    static void p21NoSuchByte() {
        Refused.bad("poke(-1, 0)", Refused::rich, x -> x.poke(-1, 0));
        Refused.bad("poke(3, 0)", x -> withCode(x, 9, 8, 7), x -> x.poke(3, 0));
    }

    static void p21CodeIsEmpty() {
        Refused.bad("poke(0, 0)", x -> { }, x -> x.poke(0, 0));
    }

    static void p21AByteThatWasShortened() {
        Refused.bad("poke(2, 5)", x -> {
            withCode(x, 9, 8, 7);
            x.shorten(1);
        }, x -> x.poke(2, 5));
    }

    static void p21FarOut() {
        for (int wild : Refused.WILD) {
            Refused.bad("poke(" + wild + ", 1)", Refused::rich, x -> x.poke(wild, 1));
            Refused.bad("poke(1, " + wild + ")", Refused::rich, x -> x.poke(1, wild));
        }
    }

    static void p21ThePlanStays() {
        CopyInserts x = new CopyInserts();
        x.lay(5);
        x.write();
        x.poke(1, 9);
        x.poke(3, 6);
        Check.dueText("THE PLAN", Texts.plan(x), "L \5");
        Check.due("its SUM", x.of(7), 1);
        x.read();
        Check.dueText("THE PLAN when read", Texts.plan(x), "L \6");
        Check.due("its SUM when read", x.of(7), 9);
    }

    static void p22ShortenByNone() {
        CopyInserts x = coded(9, 8, 7);
        Check.due("shorten(0)", x.shorten(0), 3);
        Check.dueText("CODE", Texts.code(x), "9 8 7");
    }

    static void p22ShortenByOne() {
        CopyInserts x = coded(9, 8, 7);
        Check.due("shorten(1)", x.shorten(1), 2);
        Check.dueText("CODE", Texts.code(x), "9 8");
    }

    static void p22ShortenByAll() {
        CopyInserts x = coded(9, 8, 7);
        Check.due("shorten(3)", x.shorten(3), 0);
        Check.due("code(0)", x.code(0), NONE);
    }

    static void p22ShortenByOneMoreThanItHas() {
        Refused.bad("shorten(4)", x -> withCode(x, 9, 8, 7), x -> x.shorten(4));
    }

    static void p22CodeIsEmpty() {
        Check.due("shorten(0)", new CopyInserts().shorten(0), 0);
        Refused.bad("shorten(1)", x -> { }, x -> x.shorten(1));
    }

    static void p22NegativeNumber() {
        Refused.bad("shorten(-1)", Refused::rich, x -> x.shorten(-1));
        Refused.bad("shorten(-1) of none", x -> { }, x -> x.shorten(-1));
    }

    static void p22FarOut() {
        for (int wild : Refused.WILD) {
            Refused.bad("shorten(" + wild + ")", Refused::rich, x -> x.shorten(wild));
        }
    }

    static void p22ThePlanStays() {
        CopyInserts x = coded(9, 8, 7);
        x.shorten(3);
        Check.dueText("THE PLAN", Texts.plan(x), "C 7 7, L M");
    }

    static void p23CodeOfNoBytes() {
        faultAt(0);
        Refused.check("read() of a new one", x -> { }, CopyInserts::read, FAULT);
    }

    static void p23CodeOfOneByte() {
        faultAt(1, 9);
    }

    static void p23CodeOfTwoBytesHasNoActs() {
        reads("", 0, 9, 8);
    }

    static void p23TheSumsOfTheBounds() {
        reads("", 0, 0, 0);
        reads("", 0, 0, 255);
        reads("", 0, 1, 0);
        reads("", 0, 255, 240);
        reads("", 0, 255, 241);
        reads("", 0, 255, 255);
    }

    static void p23Kind3() {
        faultAt(2, 0, 1, 193, 0);
        faultAt(2, 0, 1, 232, 0);
        faultAt(2, 0, 1, 255, 0);
        faultAt(2, 0, 1, 192, 0);
        faultAt(4, 0, 1, 1, 0, 193, 0);
    }

    static void p23CountOfZero() {
        faultAt(2, 0, 1, 0, 0);
        faultAt(2, 0, 1, 64, 0);
        faultAt(2, 0, 1, 128, 0);
    }

    static void p23CountOfOne() {
        reads("C 5 1", 1, 0, 1, 1, 5);
        reads("S 5 1", 1, 0, 1, 65, 5);
        reads("L A", 1, 0, 1, 129, 'A');
    }

    static void p23CountOf40() {
        reads("C 5 40", 1, 0, 1, 40, 5);
        reads("S 5 40", 1, 0, 1, 104, 5);
        int[] lay = new int[43];
        java.util.Arrays.fill(lay, 'B');
        lay[2] = 168;
        reads("L " + "B".repeat(40), 1, lay);
    }

    /** There are 63 bytes behind the count, so that it is not CODE's end that is wrong. */
    static void p23CountAbove40() {
        for (int count : new int[] {41, 63}) {
            for (int kind = 0; kind <= 2; kind++) {
                int[] bytes = new int[66];
                bytes[2] = 64 * kind + count;
                faultAt(2, bytes);
            }
        }
    }

    static void p23PlaceAtItsBounds() {
        reads("C 0 3", 1, 0, 1, 3, 0);
        reads("C 79 3", 1, 0, 1, 3, 79);
        reads("S 0 3", 1, 0, 1, 67, 0);
        reads("S 79 3", 1, 0, 1, 67, 79);
    }

    static void p23PlaceAbove79() {
        faultAt(3, 0, 1, 3, 80);
        faultAt(3, 0, 1, 3, 255);
        faultAt(3, 0, 1, 67, 80);
        faultAt(3, 0, 1, 67, 255);
        faultAt(5, 0, 1, 3, 79, 67, 80);
    }

    static void p23BytesOfALayMayBeAny() {
        CopyInserts x = coded(0, 1, 132, 0, 80, 192, 255);
        Check.due("read()", x.read(), 1);
        Check.due("laid(0, 0)", x.laid(0, 0), 0);
        Check.due("laid(0, 1)", x.laid(0, 1), 80);
        Check.due("laid(0, 2)", x.laid(0, 2), 192);
        Check.due("laid(0, 3)", x.laid(0, 3), 255);
    }

    static void p23EndsAheadOfAPlace() {
        faultAt(3, 0, 1, 3);
        faultAt(3, 0, 1, 67);
        faultAt(5, 0, 1, 3, 0, 104);
    }

    static void p23EndsWithinALay() {
        faultAt(3, 0, 1, 129);
        faultAt(3, 0, 1, 168);
        faultAt(4, 0, 1, 130, 5);
        int[] lay = new int[42];
        lay[2] = 168;
        faultAt(42, lay);
    }

    /** The byte is told, not the end that would follow it. */
    static void p23AWrongByteThatIsTheLast() {
        faultAt(2, 0, 1, 0);
        faultAt(2, 0, 1, 192);
        faultAt(2, 0, 1, 169);
        faultAt(3, 0, 1, 3, 80);
    }

    static void p23TheFirstOfTwoWrongBytes() {
        faultAt(2, 0, 1, 41, 80);
        faultAt(3, 0, 1, 3, 80, 0);
        faultAt(4, 0, 1, 3, 79, 0, 255);
        faultAt(5, 0, 1, 3, 79, 3, 80, 129);
    }

    static void p23The100thActAndNoMore() {
        CopyInserts x = coded(acts(100));
        Check.due("read()", x.read(), 100);
        Check.due("its KIND", x.act(99, 0), 1);
        faultAt(202, acts(101));
    }

    /** Whatever stands in it, it is the first byte of the 101st that can't be. */
    static void p23A101stActThatIsWrongItself() {
        faultAt(202, acts(100, 65));
        faultAt(202, acts(100, 0));
        faultAt(202, acts(100, 255, 255));
        faultAt(202, acts(100, 65, 80));
        faultAt(202, acts(100, 168, 1));
    }

    static void p23AWrongByteInThe100thAct() {
        faultAt(200, acts(99, 0, 0, 65, 0));
        faultAt(201, acts(99, 65, 80, 65, 0));
        faultAt(201, acts(99, 65));
        faultAt(202, acts(99, 130, 5));
    }

    static void p23A100thActThatLays() {
        CopyInserts x = coded(acts(99, 130, 5, 6));
        Check.due("read()", x.read(), 100);
        Check.due("laid(99, 1)", x.laid(99, 1), 6);
        faultAt(203, acts(99, 130, 5, 6, 65));
    }

    static void p23LaysSideBySideStayApart() {
        reads("L A, L B", 2, 0, 1, 129, 'A', 129, 'B');
    }

    static void p23ReadAgain() {
        CopyInserts x = coded(0, 1, 129, 'A');
        x.read();
        Check.due("read()", x.read(), 1);
        Check.dueText("THE PLAN", Texts.plan(x), "L A");
    }

    static void p23AFullPlanIsReadInPlaceOfAnother() {
        CopyInserts x = new CopyInserts();
        Refused.fullPlan(x);
        x.write();
        Check.due("read()", x.read(), 100);
        Check.due("ACTS", x.of(2), 100);
        Check.due("one more", x.add(0, 0, 1), CopyInserts.FULL);
        x.shorten(x.of(3) - 2);
        Check.due("read() of no ACTS", x.read(), 0);
        Check.due("act(0, 0)", x.act(0, 0), BAD);
    }

    static void p23MadeStays() {
        CopyInserts x = new CopyInserts();
        Refused.rich(x);
        String made = Texts.made(x);
        x.read();
        Check.dueText("MADE", Texts.made(x), made);
    }
}
