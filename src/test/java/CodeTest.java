/** Promises 19 to 23: plans as coded bytes. */
public final class CodeTest {
    private static final int[] WILD = {Integer.MIN_VALUE, -1000, -1, 5000, Integer.MAX_VALUE};

    public static void main(String[] args) {
        promise19();
        promise20();
        promise21();
        promise22();
        promise23();
        promise23Faults();
        promise23Ends();
        promise23Acts();
        Check.end();
    }

    private static CopyInserts withPlan() {
        CopyInserts x = new CopyInserts();
        Texts.put(x, 0, 1, 2, 3);
        x.empty();
        x.add(0, 1, 2);
        x.add(1, 79, 40);
        x.lay(255);
        x.lay(0);
        return x;
    }

    private static void promise19() {
        CopyInserts none = new CopyInserts();
        Check.due("write() of no acts", none.write(), 2);
        Check.dueText("CODE of no acts", Texts.code(none), "0 1");
        CopyInserts x = withPlan();
        Check.due("write()", x.write(), 9);
        Check.dueText("CODE", Texts.code(x), "120 97 2 1 104 79 130 255 0");
        x.put(0, 9);
        Check.due("write() with another OLD", x.write(), 9);
        Check.due("THE PLAN's own SUM", x.code(0), 120);
        x.empty();
        Check.due("CODE stays", x.of(3), 9);
        Check.due("write() of less", x.write(), 2);
        Check.due("behind it", x.code(2), CopyInserts.NONE);
        for (int k = 0; k < 100; k++) {
            x.add(1, 5, 3);
        }
        Check.due("write() of 100", x.write(), 202);
        Check.due("the last", x.code(201), 5);
        CopyInserts lays = new CopyInserts();
        for (int i = 0; i < 81; i++) {
            lays.lay(i);
        }
        Check.due("write() of three LAYS", lays.write(), 2 + 41 + 41 + 2);
        Check.due("first of the second", lays.code(43), 168);
        Check.due("the last byte", lays.code(85), 80);
    }

    private static void promise20() {
        CopyInserts x = withPlan();
        Check.due("code(0) ahead", x.code(0), CopyInserts.NONE);
        x.write();
        Check.due("code(0)", x.code(0), 120);
        Check.due("code(8)", x.code(8), 0);
        Check.due("code(9)", x.code(9), CopyInserts.NONE);
        for (int value : WILD) {
            Check.due("code(" + value + ")", x.code(value), CopyInserts.NONE);
        }
    }

    private static void promise21() {
        CopyInserts x = withPlan();
        Check.due("poke ahead", x.poke(0, 0), CopyInserts.BAD);
        x.write();
        Check.due("poke(0, 255)", x.poke(0, 255), 120);
        Check.due("code(0)", x.code(0), 255);
        Check.due("poke(8, 7)", x.poke(8, 7), 0);
        Check.due("code(8)", x.code(8), 7);
        Check.due("poke(9, 7)", x.poke(9, 7), CopyInserts.BAD);
        Check.due("poke(0, 256)", x.poke(0, 256), CopyInserts.BAD);
        Check.due("poke(0, -1)", x.poke(0, -1), CopyInserts.BAD);
        for (int value : WILD) {
            Check.due("poke(" + value + ", 1)", x.poke(value, 1), CopyInserts.BAD);
            Check.due("poke(0, " + value + ")", x.poke(0, value), CopyInserts.BAD);
        }
        Check.dueText("CODE", Texts.code(x), "255 97 2 1 104 79 130 255 7");
        Check.due("THE PLAN stays", x.laid(2, 1), 0);
        Check.due("its SUM stays", x.of(7), 30817);
    }

    private static void promise22() {
        CopyInserts x = withPlan();
        Check.due("shorten(0) of none", x.shorten(0), 0);
        Check.due("shorten(1) of none", x.shorten(1), CopyInserts.BAD);
        x.write();
        Check.due("shorten(0)", x.shorten(0), 9);
        Check.due("shorten(2)", x.shorten(2), 7);
        Check.due("code(7)", x.code(7), CopyInserts.NONE);
        Check.due("code(6)", x.code(6), 130);
        Check.due("shorten(8)", x.shorten(8), CopyInserts.BAD);
        for (int value : WILD) {
            Check.due("shorten(" + value + ")", x.shorten(value), CopyInserts.BAD);
        }
        Check.due("CODE has", x.of(3), 7);
        Check.due("shorten(7)", x.shorten(7), 0);
    }

    private static void promise23() {
        CopyInserts x = withPlan();
        String plan = Texts.plan(x);
        x.write();
        x.put(0, 5);
        x.empty();
        x.lay(1);
        Check.due("read()", x.read(), 3);
        Check.dueText("THE PLAN", Texts.plan(x), plan);
        Check.due("its SUM", x.of(7), 30817);
        Check.due("CODE stays", x.of(3), 9);
        Check.due("make() by another OLD", x.make(), CopyInserts.OTHER);
        Check.due("lay behind what was read", x.lay(9), 3);
        Check.due("n of the LAY", x.act(2, 1), 3);
        x.poke(0, 255);
        x.poke(1, 255);
        x.read();
        Check.due("a SUM that none has", x.of(7), 65535);
        CopyInserts none = new CopyInserts();
        none.write();
        none.lay(1);
        Check.due("read() of no acts", none.read(), 0);
        CopyInserts two = new CopyInserts();
        two.lay('x');
        two.lay(129);
        two.lay('y');
        two.write();
        two.poke(2, 129);
        Check.due("LAYS side by side", two.read(), 2);
        Check.dueText("stay two", Texts.plan(two), "L x, L y");
        two.lay('z');
        Check.dueText("the last of them lays on", Texts.plan(two), "L x, L yz");
    }

    /** A fault is told by its place, and THE PLAN, CODE and all else stay. */
    private static void faultAt(String what, CopyInserts x, int place) {
        String ahead = Texts.state(x);
        Check.due(what, x.read(), CopyInserts.FAULT - place);
        Check.dueText(what + ": all stays", Texts.state(x), ahead);
    }

    private static CopyInserts coded(int... pokes) {
        CopyInserts x = withPlan();
        x.write();
        for (int i = 0; i < pokes.length; i += 2) {
            x.poke(pokes[i], pokes[i + 1]);
        }
        return x;
    }

    private static void promise23Faults() {
        faultAt("n 0 of COPY", coded(2, 0), 2);
        faultAt("n 41 of COPY", coded(2, 41), 2);
        faultAt("n 63 of COPY", coded(2, 63), 2);
        faultAt("n 0 of SELF", coded(4, 64), 4);
        faultAt("n 41 of SELF", coded(4, 105), 4);
        faultAt("n 0 of LAY", coded(6, 128), 6);
        faultAt("n 41 of LAY", coded(6, 169), 6);
        faultAt("KIND 3", coded(2, 193), 2);
        faultAt("KIND 3, n 0", coded(6, 192), 6);
        faultAt("KIND 3, n 63", coded(4, 255), 4);
        faultAt("p 80 of COPY", coded(3, 80), 3);
        faultAt("p 255 of SELF", coded(5, 255), 5);
        faultAt("the first of two", coded(3, 80, 6, 0), 3);
        Check.due("p 79 of COPY", coded(3, 79).read(), 3);
        Check.due("n 40 of COPY", coded(2, 40).read(), 3);
        Check.due("bytes of LAY may be any", coded(7, 0, 8, 255).read(), 3);
        faultAt("a LAY of more than there is", coded(6, 131), 9);
        faultAt("a LAY of 40 of which 6 are there", coded(2, 168), 9);
        faultAt("a LAY of less than there is", coded(6, 129), 8);
    }

    private static void promise23Ends() {
        faultAt("CODE of no bytes", withPlan(), 0);
        int[] due = {-1000, -1001, 0, -1003, 1, -1005, 2, -1007, -1008, 3};
        for (int left = 9; left >= 0; left--) {
            CopyInserts x = coded();
            x.shorten(9 - left);
            Check.due("read() of " + left + " bytes", x.read(), due[left]);
            Check.due("THE PLAN of " + left + " bytes", x.of(2), due[left] < 0 ? 3 : due[left]);
        }
        CopyInserts both = coded(4, 200);
        both.shorten(4);
        faultAt("a wrong head that is the last byte", both, 4);
    }

    /** A LAY of 40, poked to one of 2, leaves 38 bytes behind it, which are 19 SELFS. */
    private static CopyInserts withSpareActs(int others) {
        CopyInserts x = new CopyInserts();
        for (int j = 0; j < 20; j++) {
            x.lay(65);
            x.lay(0);
        }
        for (int k = 0; k < others; k++) {
            x.add(1, 0, 1);
        }
        x.write();
        x.poke(2, 130);
        return x;
    }

    /** The state of so many ACTS would take more than the 512 calls that an object is good for. */
    private static void tooManyAt(String what, CopyInserts x, int place) {
        int acts = x.of(2);
        int bytes = x.of(3);
        Check.due(what, x.read(), CopyInserts.FAULT - place);
        Check.due(what + ": ACTS stay", x.of(2), acts);
        Check.due(what + ": the first stays", x.act(0, 1), 40);
        Check.due(what + ": CODE stays", x.of(3), bytes);
    }

    private static void promise23Acts() {
        Check.due("100 ACTS", withSpareActs(80).read(), 100);
        tooManyAt("a 101st ACT", withSpareActs(81), 2 + 3 + 99 * 2);
        tooManyAt("a 118th ACT", withSpareActs(98), 2 + 3 + 99 * 2);
        CopyInserts cutShort = withSpareActs(81);
        cutShort.shorten(1);
        tooManyAt("a 101st ACT that is cut short", cutShort, 2 + 3 + 99 * 2);
        CopyInserts wrong = withSpareActs(81);
        wrong.poke(2 + 3 + 98 * 2, 0);
        tooManyAt("a wrong byte ahead of a 101st ACT", wrong, 2 + 3 + 98 * 2);
        CopyInserts full = withSpareActs(80);
        full.read();
        Check.due("add to 100 that were read", full.add(0, 0, 1), CopyInserts.FULL);
    }
}
