/** Promises 1 to 6, 10, 25, 26. */
public final class TextsAndCostsTest {
    private static final int[] WILD = {Integer.MIN_VALUE, -1000, -1, 1000, Integer.MAX_VALUE};

    public static void main(String[] args) {
        promise1();
        promise2();
        promise3();
        promise4();
        promise5();
        promise6();
        promise10();
        promise25();
        promise26();
        Check.end();
    }

    private static void isAsAtFirst(String when, CopyInserts x) {
        int[] first = {0, 0, 0, 0, 0, 1, 1, 1, 4, 2, 4, 2, 3};
        for (int what = 0; what < first.length; what++) {
            Check.due(when + " of(" + what + ")", x.of(what), first[what]);
        }
        Check.due(when + " at(0, 0)", x.at(0, 0), CopyInserts.BAD);
        Check.due(when + " at(1, 0)", x.at(1, 0), CopyInserts.BAD);
        Check.due(when + " act(0, 0)", x.act(0, 0), CopyInserts.BAD);
        Check.due(when + " code(0)", x.code(0), CopyInserts.NONE);
        Check.due(when + " made(0)", x.made(0), CopyInserts.NONE);
        Check.due(when + " isNew()", x.isNew(), 1);
        Check.due(when + " cost()", x.cost(), 0);
        Check.due(when + " rest(0, 0)", x.rest(0, 0), 0);
    }

    private static void promise1() {
        isAsAtFirst("new", new CopyInserts());
        Check.due("new make()", new CopyInserts().make(), 0);
        Check.due("new plan()", new CopyInserts().plan(), 0);
        CopyInserts one = new CopyInserts();
        CopyInserts other = new CopyInserts();
        one.put(0, 5);
        Check.due("another object's OLD", other.of(0), 0);
    }

    private static void promise2() {
        CopyInserts x = Texts.of("abcde", "cdeabcx");
        x.costs(1, 2, 3, 4, 5);
        x.plan();
        x.make();
        x.write();
        Check.due("clear()", x.clear(), 12);
        isAsAtFirst("cleared", x);
        Check.due("clear() again", x.clear(), 0);
        Texts.put(x, 1, "zz");
        Check.due("rest after clear", x.rest(0, 0), 8);
        Check.due("plan after clear", x.plan(), 1);
    }

    private static void promise3() {
        CopyInserts x = new CopyInserts();
        Check.due("put(0, 0)", x.put(0, 0), 1);
        Check.due("put(0, 255)", x.put(0, 255), 2);
        Check.due("put(1, 7)", x.put(1, 7), 1);
        Check.due("put(0, 256)", x.put(0, 256), CopyInserts.BAD);
        Check.due("put(0, -1)", x.put(0, -1), CopyInserts.BAD);
        Check.due("put(2, 1)", x.put(2, 1), CopyInserts.BAD);
        Check.due("put(-1, 1)", x.put(-1, 1), CopyInserts.BAD);
        Check.due("at(0, 1)", x.at(0, 1), 255);
        for (int n = 3; n <= 40; n++) {
            Check.due("put " + n, x.put(0, n), n);
        }
        Check.due("a 41st", x.put(0, 1), CopyInserts.FULL);
        Check.due("BAD ahead of FULL", x.put(0, 256), CopyInserts.BAD);
        Check.due("OLD has", x.of(0), 40);
        Check.due("NEW has", x.of(1), 1);
        Check.due("last of OLD", x.at(0, 39), 40);
        for (int value : WILD) {
            Check.due("put to " + value, x.put(value, 1), CopyInserts.BAD);
            Check.due("put of " + value, x.put(1, value), CopyInserts.BAD);
        }
        Check.due("NEW still has", x.of(1), 1);
    }

    private static void promise4() {
        CopyInserts x = Texts.of("abc", "defg");
        Check.due("cut(0, 0)", x.cut(0, 0), 3);
        Check.due("cut(0, 2)", x.cut(0, 2), 1);
        Check.dueText("OLD", Texts.text(x, 0), "a");
        Check.due("cut(0, 2) of 1", x.cut(0, 2), CopyInserts.BAD);
        Check.due("cut(1, -1)", x.cut(1, -1), CopyInserts.BAD);
        Check.due("cut(1, 5)", x.cut(1, 5), CopyInserts.BAD);
        Check.due("cut(2, 0)", x.cut(2, 0), CopyInserts.BAD);
        Check.due("cut(-1, 0)", x.cut(-1, 0), CopyInserts.BAD);
        for (int value : WILD) {
            Check.due("cut of " + value, x.cut(0, value), CopyInserts.BAD);
            Check.due("cut in " + value, x.cut(value, 1), CopyInserts.BAD);
        }
        Check.dueText("NEW", Texts.text(x, 1), "defg");
        Check.due("rest", x.rest(0, 0), 14);
        Check.due("cut(1, 4)", x.cut(1, 4), 0);
        Check.due("rest behind a cut", x.rest(0, 0), 0);
        Check.due("put behind a cut", x.put(0, 'z'), 2);
        Check.dueText("OLD at last", Texts.text(x, 0), "az");
    }

    private static void promise5() {
        CopyInserts x = Texts.of("ab", "wxyz");
        Check.due("rest", x.rest(0, 0), 14);
        Check.due("turn()", x.turn(), 4);
        Check.dueText("OLD", Texts.text(x, 0), "wxyz");
        Check.dueText("NEW", Texts.text(x, 1), "ab");
        Check.due("rest of the turned", x.rest(0, 4), 8);
        Check.due("put to the turned", x.put(1, 'c'), 3);
        Check.dueText("OLD keeps", Texts.text(x, 0), "wxyz");
        Check.due("turn() back", x.turn(), 3);
        Check.due("turn() of none", new CopyInserts().turn(), 0);
        CopyInserts full = new CopyInserts();
        for (int i = 0; i < 40; i++) {
            full.put(0, i);
        }
        Check.due("turn() of a full one", full.turn(), 0);
        Check.due("put to the full one", full.put(1, 1), CopyInserts.FULL);
        Check.due("put to the empty one", full.put(0, 1), 1);
    }

    private static void promise6() {
        CopyInserts x = new CopyInserts();
        Check.due("the same", x.costs(4, 2, 4, 2, 3), 0);
        Check.due("all others", x.costs(5, 6, 7, 8, 9), 5);
        for (int i = 0; i < 5; i++) {
            Check.due("of(" + (8 + i) + ")", x.of(8 + i), 5 + i);
        }
        Check.due("first", x.costs(0, 6, 7, 8, 9), 1);
        Check.due("second", x.costs(0, 0, 7, 8, 9), 1);
        Check.due("third", x.costs(0, 0, 0, 8, 9), 1);
        Check.due("fourth", x.costs(0, 0, 0, 0, 9), 1);
        Check.due("fifth", x.costs(0, 0, 0, 0, 0), 1);
        Check.due("most", x.costs(100, 100, 100, 100, 100), 5);
        for (int i = 0; i < 5; i++) {
            for (int value : new int[] {101, -1, 1000, Integer.MIN_VALUE, Integer.MAX_VALUE}) {
                int[] c = {1, 1, 1, 1, 1};
                c[i] = value;
                Check.due("number " + i + " is " + value, x.costs(c[0], c[1], c[2], c[3], c[4]), CopyInserts.BAD);
            }
            Check.due("of(" + (8 + i) + ") stays", x.of(8 + i), 100);
        }
        CopyInserts y = Texts.of("", "abc");
        Check.due("rest", y.rest(0, 0), 11);
        y.costs(1, 1, 1, 50, 7);
        Check.due("rest by other numbers", y.rest(0, 0), 71);
    }

    private static void promise10() {
        CopyInserts x = Texts.of("abcabd", "xabcab");
        Check.due("match(0, 0, 1)", x.match(0, 0, 1), 5);
        Check.due("match(0, 3, 1)", x.match(0, 3, 1), 2);
        Check.due("match(0, 3, 4)", x.match(0, 3, 4), 2);
        Check.due("match(0, 0, 0)", x.match(0, 0, 0), 0);
        Check.due("match(1, 1, 4)", x.match(1, 1, 4), 2);
        Check.due("match(1, 4, 1)", x.match(1, 4, 1), 2);
        Check.due("match(1, 2, 2)", x.match(1, 2, 2), 4);
        Check.due("match(0, 5, 5)", x.match(0, 5, 5), 0);
        Check.due("p behind", x.match(0, 6, 0), CopyInserts.BAD);
        Check.due("i behind", x.match(0, 0, 6), CopyInserts.BAD);
        Check.due("p ahead", x.match(1, -1, 0), CopyInserts.BAD);
        Check.due("i ahead", x.match(1, 0, -1), CopyInserts.BAD);
        Check.due("text 2", x.match(2, 0, 0), CopyInserts.BAD);
        Check.due("text -1", x.match(-1, 0, 0), CopyInserts.BAD);
        for (int value : WILD) {
            Check.due("text " + value, x.match(value, 0, 0), CopyInserts.BAD);
            Check.due("p " + value, x.match(0, value, 0), CopyInserts.BAD);
            Check.due("i " + value, x.match(0, 0, value), CopyInserts.BAD);
        }
        Check.due("empty OLD", Texts.of("", "a").match(0, 0, 0), CopyInserts.BAD);
        Check.due("empty NEW", Texts.of("a", "").match(0, 0, 0), CopyInserts.BAD);
        CopyInserts runs = Texts.of("aaaa", "aaaaaa");
        Check.due("to OLD's end", runs.match(0, 1, 0), 3);
        Check.due("over one another", runs.match(1, 0, 1), 5);
    }

    private static void promise25() {
        CopyInserts x = Texts.of("", "");
        Texts.put(x, 0, 1, 2, 3);
        Texts.put(x, 1, 255, 0);
        x.costs(11, 12, 13, 14, 15);
        x.plan();
        x.write();
        x.make();
        x.put(0, 9);
        int[] due = {4, 2, 1, 5, 2, (30817 * 31 + 9) % 65521, 286 * 31, 30817, 11, 12, 13, 14, 15};
        for (int what = 0; what < due.length; what++) {
            Check.due("of(" + what + ")", x.of(what), due[what]);
        }
        Check.due("of(13)", x.of(13), CopyInserts.BAD);
        Check.due("of(-1)", x.of(-1), CopyInserts.BAD);
        for (int value : WILD) {
            Check.due("of(" + value + ")", x.of(value), CopyInserts.BAD);
        }
        CopyInserts full = new CopyInserts();
        long sum = 1;
        for (int i = 0; i < 40; i++) {
            full.put(1, 255);
            sum = (sum * 31 + 255) % 65521;
            Check.due("THE SUM of " + (i + 1), full.of(6), sum);
        }
    }

    private static void promise26() {
        CopyInserts x = Texts.of("ab", "c");
        Check.due("at(0, 0)", x.at(0, 0), 'a');
        Check.due("at(0, 1)", x.at(0, 1), 'b');
        Check.due("at(1, 0)", x.at(1, 0), 'c');
        Check.due("at(0, 2)", x.at(0, 2), CopyInserts.BAD);
        Check.due("at(1, 1)", x.at(1, 1), CopyInserts.BAD);
        Check.due("at(2, 0)", x.at(2, 0), CopyInserts.BAD);
        for (int value : WILD) {
            Check.due("at(" + value + ", 0)", x.at(value, 0), CopyInserts.BAD);
            Check.due("at(0, " + value + ")", x.at(0, value), CopyInserts.BAD);
        }
        x.cut(0, 1);
        Check.due("at what was cut", x.at(0, 1), CopyInserts.BAD);
    }
}
