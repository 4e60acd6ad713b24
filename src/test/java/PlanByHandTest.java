/** Promises 11 to 18: plans put by hand, and what is made by them. */
public final class PlanByHandTest {
    private static final int[] WILD = {Integer.MIN_VALUE, -1000, -1, 1000, Integer.MAX_VALUE};

    public static void main(String[] args) {
        promise11();
        promise12();
        promise13();
        promise14();
        promise15();
        promise16();
        promise16Fails();
        promise17();
        promise18();
        Check.end();
    }

    private static void actIs(CopyInserts x, int k, int... due) {
        for (int what = 0; what < 5; what++) {
            Check.due("act(" + k + ", " + what + ")", x.act(k, what), due[what]);
        }
    }

    private static void promise11() {
        CopyInserts x = Texts.of("abcdef", "");
        x.add(0, 0, 2);
        x.add(0, 3, 40);
        x.add(1, 79, 5);
        x.lay(8);
        x.lay(9);
        x.add(0, 43, 1);
        x.add(0, 43, 1);
        actIs(x, 0, 0, 2, 0, 0, 4);
        actIs(x, 1, 0, 40, 3, 2, 6);
        actIs(x, 2, 1, 5, 79, 43, 4);
        actIs(x, 3, 2, 2, CopyInserts.NONE, 43, 8);
        actIs(x, 4, 0, 1, 43, 43, 4);
        actIs(x, 5, 0, 1, 43, 44, 6);
        x.costs(10, 20, 30, 40, 50);
        Check.due("COST by other numbers", x.act(1, 4), 30);
        Check.due("COST of LAY by other numbers", x.act(3, 4), 140);
        Check.due("no such act", x.act(6, 0), CopyInserts.BAD);
        Check.due("no such what", x.act(0, 5), CopyInserts.BAD);
        for (int value : WILD) {
            Check.due("act " + value, x.act(value, 0), CopyInserts.BAD);
            Check.due("what " + value, x.act(0, value), CopyInserts.BAD);
        }
        x.empty();
        Check.due("act of an empty one", x.act(0, 0), CopyInserts.BAD);
    }

    private static void promise12() {
        CopyInserts x = new CopyInserts();
        x.lay(5);
        x.lay(6);
        x.add(1, 0, 3);
        x.lay(7);
        Check.due("laid(0, 0)", x.laid(0, 0), 5);
        Check.due("laid(0, 1)", x.laid(0, 1), 6);
        Check.due("laid(2, 0)", x.laid(2, 0), 7);
        Check.due("no such byte", x.laid(0, 2), CopyInserts.BAD);
        Check.due("no LAY", x.laid(1, 0), CopyInserts.BAD);
        Check.due("no such act", x.laid(3, 0), CopyInserts.BAD);
        for (int value : WILD) {
            Check.due("act " + value, x.laid(value, 0), CopyInserts.BAD);
            Check.due("byte " + value, x.laid(0, value), CopyInserts.BAD);
        }
        CopyInserts best = Texts.of("abc", "XYabcZ");
        best.plan();
        Check.due("of THE BEST PLAN", best.laid(0, 1), 'Y');
        Check.due("of its last act", best.laid(2, 0), 'Z');
    }

    private static void promise13() {
        CopyInserts x = Texts.of("ab", "");
        Check.due("empty() of none", x.empty(), 0);
        Check.due("SUM", x.of(7), x.of(5));
        x.add(0, 0, 2);
        x.lay(1);
        x.put(0, 'c');
        Check.due("SUM stays", x.of(7) == x.of(5) ? 1 : 0, 0);
        Check.due("empty()", x.empty(), 2);
        Check.due("ACTS", x.of(2), 0);
        Check.due("SUM anew", x.of(7), x.of(5));
        Check.due("lay behind it", x.lay(3), 1);
        Check.due("laid behind it", x.laid(0, 0), 3);
        Check.due("n behind it", x.act(0, 1), 1);
    }

    private static void promise14() {
        CopyInserts x = new CopyInserts();
        x.put(0, 4);
        Check.due("add(0, 0, 1)", x.add(0, 0, 1), 1);
        Check.due("add(1, 79, 40)", x.add(1, 79, 40), 2);
        Check.due("SUM stays", x.of(7), 1);
        Check.due("kind 2", x.add(2, 0, 1), CopyInserts.BAD);
        Check.due("kind -1", x.add(-1, 0, 1), CopyInserts.BAD);
        Check.due("p 80", x.add(0, 80, 1), CopyInserts.BAD);
        Check.due("p -1", x.add(0, -1, 1), CopyInserts.BAD);
        Check.due("n 0", x.add(0, 0, 0), CopyInserts.BAD);
        Check.due("n 41", x.add(0, 0, 41), CopyInserts.BAD);
        for (int value : WILD) {
            Check.due("kind " + value, x.add(value, 0, 1), CopyInserts.BAD);
            Check.due("p " + value, x.add(0, value, 1), CopyInserts.BAD);
            Check.due("n " + value, x.add(0, 0, value), CopyInserts.BAD);
        }
        Check.due("ACTS", x.of(2), 2);
        for (int k = 3; k <= 100; k++) {
            Check.due("add " + k, x.add(k % 2, k % 80, 1 + k % 40), k);
        }
        Check.due("a 101st", x.add(0, 0, 1), CopyInserts.FULL);
        Check.due("BAD ahead of FULL", x.add(0, 0, 41), CopyInserts.BAD);
        Check.due("ACTS stay", x.of(2), 100);
        Check.due("the 100th", x.act(99, 2), 20);
    }

    private static void promise15() {
        CopyInserts x = new CopyInserts();
        Check.due("lay(256)", x.lay(256), CopyInserts.BAD);
        Check.due("lay(-1)", x.lay(-1), CopyInserts.BAD);
        Check.due("no act of it", x.of(2), 0);
        for (int i = 0; i < 40; i++) {
            Check.due("lay " + i, x.lay(i), 1);
        }
        Check.due("a 41st byte", x.lay(255), 2);
        Check.due("n of the first", x.act(0, 1), 40);
        Check.due("n of the second", x.act(1, 1), 1);
        Check.due("its byte", x.laid(1, 0), 255);
        Check.due("last byte of the first", x.laid(0, 39), 39);
        x.add(1, 0, 1);
        Check.due("behind a SELF", x.lay(7), 4);
        for (int k = 5; k <= 100; k++) {
            x.add(1, 0, 1);
        }
        Check.due("with 100 others", x.lay(1), CopyInserts.FULL);
        Check.due("BAD ahead of FULL", x.lay(256), CopyInserts.BAD);
        Check.due("ACTS stay", x.of(2), 100);
        x.empty();
        for (int k = 1; k <= 99; k++) {
            x.add(1, 0, 1);
        }
        for (int i = 0; i < 40; i++) {
            Check.due("lay by the 100th", x.lay(i), 100);
        }
        Check.due("lay by a 101st", x.lay(1), CopyInserts.FULL);
        Check.due("n of the 100th", x.act(99, 1), 40);
        CopyInserts y = new CopyInserts();
        y.put(0, 4);
        y.lay(4);
        Check.due("SUM stays", y.of(7), 1);
    }

    private static void promise16() {
        CopyInserts x = Texts.of("abcdef", "");
        x.empty();
        Check.due("make() of no acts", x.make(), 0);
        x.add(0, 2, 4);
        x.lay('-');
        x.add(1, 3, 5);
        x.add(0, 0, 1);
        Check.due("make()", x.make(), 11);
        Check.dueText("MADE", Texts.made(x), "cdef-f-f-fa");
        Check.due("make() again", x.make(), 11);
        x.put(0, 'g');
        String ahead = Texts.state(x);
        Check.due("OTHER", x.make(), CopyInserts.OTHER);
        Check.dueText("nothing changes", Texts.state(x), ahead);
        x.cut(0, 1);
        Check.due("the same OLD again", x.make(), 11);
        CopyInserts faulty = new CopyInserts();
        faulty.put(0, 1);
        faulty.add(1, 0, 1);
        Check.due("OTHER ahead of a FAULT", faulty.make(), CopyInserts.OTHER);
    }

    private static void promise16Fails() {
        CopyInserts x = Texts.of("abc", "");
        x.empty();
        x.add(0, 0, 4);
        Check.due("COPY beyond OLD", x.make(), CopyInserts.FAULT);
        x.empty();
        x.add(0, 1, 2);
        x.add(0, 3, 1);
        Check.due("COPY from behind OLD", x.make(), CopyInserts.FAULT - 1);
        Check.dueText("MADE ahead of it", Texts.made(x), "bc");
        x.empty();
        x.add(0, 0, 3);
        x.add(1, 2, 1);
        x.add(1, 4, 1);
        Check.due("SELF from behind what is made", x.make(), CopyInserts.FAULT - 2);
        Check.dueText("MADE ahead of SELF", Texts.made(x), "abcc");
        x.empty();
        x.add(1, 0, 1);
        Check.due("SELF of nothing", x.make(), CopyInserts.FAULT);
        Check.due("nothing is MADE", x.of(4), 0);
        x.empty();
        x.add(0, 0, 2);
        x.add(1, 0, 38);
        x.add(1, 0, 40);
        Check.due("80 BYTES", x.make(), 80);
        x.lay(1);
        Check.due("an 81st by LAY", x.make(), CopyInserts.FAULT - 3);
        Check.due("80 are MADE", x.of(4), 80);
        Check.due("the last of them", x.made(79), 'b');
        x.empty();
        x.add(0, 0, 3);
        x.add(1, 0, 38);
        x.add(1, 0, 40);
        Check.due("81 by SELF", x.make(), CopyInserts.FAULT - 2);
        Check.due("41 are MADE", x.of(4), 41);
        x.empty();
        for (int k = 0; k < 99; k++) {
            x.add(0, 0, 1);
        }
        Check.due("an 81st by COPY", x.make(), CopyInserts.FAULT - 80);
        CopyInserts full = new CopyInserts();
        for (int i = 0; i < 40; i++) {
            full.put(0, i);
        }
        full.empty();
        full.add(0, 0, 40);
        full.add(1, 39, 40);
        Check.due("COPY of all of a full OLD", full.make(), 80);
    }

    private static void promise17() {
        CopyInserts x = Texts.of("ab", "");
        x.empty();
        x.add(0, 0, 2);
        Check.due("made(0) ahead", x.made(0), CopyInserts.NONE);
        x.make();
        Check.due("made(0)", x.made(0), 'a');
        Check.due("made(1)", x.made(1), 'b');
        Check.due("made(2)", x.made(2), CopyInserts.NONE);
        for (int value : WILD) {
            Check.due("made(" + value + ")", x.made(value), CopyInserts.NONE);
        }
        x.put(0, 'c');
        x.empty();
        Check.due("stays until the next", x.made(1), 'b');
        x.lay('z');
        x.make();
        Check.due("the next", x.made(0), 'z');
        Check.due("behind the next", x.made(1), CopyInserts.NONE);
    }

    private static void promise18() {
        CopyInserts x = Texts.of("ab", "abz");
        Check.due("nothing is MADE", x.isNew(), 0);
        x.empty();
        x.add(0, 0, 2);
        x.make();
        Check.due("less than NEW", x.isNew(), 0);
        x.lay('z');
        Check.due("not MADE anew", x.isNew(), 0);
        x.make();
        Check.due("NEW", x.isNew(), 1);
        x.lay('z');
        x.make();
        Check.due("more than NEW", x.isNew(), 0);
        x.put(1, 'z');
        Check.due("NEW has more", x.isNew(), 1);
        x.cut(1, 1);
        x.put(1, 'y');
        Check.due("another byte", x.isNew(), 0);
    }
}
