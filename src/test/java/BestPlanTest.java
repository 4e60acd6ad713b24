/** Promises 7, 8, 9, 24: THE BEST PLAN, THE REST and what was moved, of texts worked out by hand. */
public final class BestPlanTest {
    public static void main(String[] args) {
        promise7();
        promise7InOrder();
        promise7Sum();
        promise8();
        promise9();
        promise24();
        staysUpToDate();
        Check.end();
    }

    private static void planOf(CopyInserts x, int count, String plan) {
        String texts = Texts.text(x, 0) + " to " + Texts.text(x, 1);
        Check.due("plan() of " + texts, x.plan(), count);
        Check.dueText("plan of " + texts, Texts.plan(x), plan);
        Check.due("cost of " + texts, x.cost(), x.rest(0, 0));
        Check.due("make() of " + texts, x.make(), x.of(1));
        Check.due("isNew() of " + texts, x.isNew(), 1);
    }

    private static CopyInserts of(String old, String made, int... c) {
        CopyInserts x = Texts.of(old, made);
        x.costs(c[0], c[1], c[2], c[3], c[4]);
        return x;
    }

    private static void promise7() {
        planOf(Texts.of("", ""), 0, "");
        planOf(Texts.of("abc", ""), 0, "");
        planOf(Texts.of("abc", "abc"), 1, "C 0 3");
        planOf(Texts.of("", "abc"), 1, "L abc");
        planOf(Texts.of("", "aaaaaa"), 2, "L a, S 0 5");
        planOf(Texts.of("", "abababab"), 2, "L ab, S 0 6");
        planOf(Texts.of("abcdef", "defabc"), 2, "C 3 3, C 0 3");
        planOf(Texts.of("abcdef", "abcXdef"), 3, "C 0 3, L X, C 3 3");
        planOf(Texts.of("abcdef", "cdefcdefQ"), 3, "C 2 4, S 0 4, L Q");
        CopyInserts full = new CopyInserts();
        for (int i = 0; i < 40; i++) {
            full.put(0, i * 6);
            full.put(1, i * 6);
        }
        Check.due("plan() of full texts", full.plan(), 1);
        Check.due("n of full texts", full.act(0, 1), 40);
        Check.due("isNew of full texts", full.make() == 40 ? full.isNew() : -1, 1);
        CopyInserts laid = new CopyInserts();
        for (int i = 0; i < 40; i++) {
            laid.put(1, i);
        }
        Check.due("plan() of 40 new bytes", laid.plan(), 1);
        Check.due("cost of 40 new bytes", laid.cost(), 122);
        CopyInserts single = new CopyInserts();
        single.costs(0, 0, 0, 100, 100);
        for (int i = 0; i < 40; i++) {
            single.put(0, i);
            single.put(1, 39 - i);
        }
        Check.due("plan() backwards", single.plan(), 40);
        Check.due("cost backwards", single.cost(), 0);
        Check.due("moved backwards", single.moved(0) + single.moved(1) + single.moved(2), 40);
        Check.due("moved up", single.moved(2), 1);
        for (int call = 0; call < 200; call++) {
            laid.plan();
        }
        Check.due("last byte laid by the 201st plan()", laid.laid(0, 39), 39);
        Check.due("isNew by the 201st plan()", laid.make() == 40 ? laid.isNew() : -1, 1);
    }

    private static void promise7InOrder() {
        // All is free: COPY ahead of SELF ahead of LAY, the longest, the lesser p.
        planOf(of("xabcabc", "abcabc", 0, 0, 0, 0, 0), 1, "C 1 6");
        planOf(of("abab", "ab", 0, 0, 0, 0, 0), 1, "C 0 2");
        planOf(of("xx", "aaaa", 0, 0, 0, 0, 0), 1, "L aaaa");
        planOf(of("a", "aaaa", 0, 0, 0, 0, 0), 4, "C 0 1, C 0 1, C 0 1, C 0 1");
        planOf(of("aab", "abab", 0, 0, 0, 0, 0), 2, "C 1 2, C 1 2");
        // COPY ahead of LAY, and SELF ahead of LAY, at the same COST, though they make less.
        planOf(of("b", "bab", 1, 0, 9, 0, 1), 2, "C 0 1, L ab");
        planOf(of("ab", "abaZ", 0, 9, 1, 0, 1), 3, "C 0 2, S 0 1, L Z");
        planOf(of("ab", "ababZ", 2, 0, 2, 0, 1), 3, "C 0 2, C 0 2, L Z");
        // A LAY that makes more ahead of one that leaves the same to a COPY or SELF.
        planOf(of("b", "abb", 1, 0, 1, 0, 1), 1, "L abb");
        planOf(of("", "aba", 9, 0, 1, 0, 1), 1, "L aba");
        planOf(of("", "caab", 9, 9, 2, 2, 0), 1, "L caab");
        // Of SELFS of one length the lesser p.
        planOf(of("", "abxabyab", 99, 0, 1, 2, 10), 4, "L abx, S 0 2, L y, S 0 2");
        // The one at THE SPOT spares SEEKING; where SEEKING is free, the lesser p stands first.
        planOf(of("abXabY", "abXab", 1, 50, 99, 99, 99), 1, "C 0 5");
        planOf(of("cdab cd", "abcd", 4, 2, 99, 50, 50), 2, "C 2 2, C 0 2");
        planOf(of("abcdXcd", "abZcd", 4, 2, 99, 10, 10), 3, "C 0 2, L Z, C 2 2");
        planOf(of("cdabXcd", "abXcd", 4, 0, 99, 99, 99), 1, "C 2 5");
    }

    private static void promise7Sum() {
        CopyInserts x = Texts.of("abc", "abcd");
        Check.due("SUM ahead", x.of(7), 1);
        x.plan();
        Check.due("SUM of THE PLAN", x.of(7), x.of(5));
        x.put(0, 'd');
        Check.due("SUM stays the old one's", x.of(7) == x.of(5) ? 1 : 0, 0);
        Check.due("make() by another OLD", x.make(), CopyInserts.OTHER);
        x.add(0, 0, 1);
        Check.due("plan() in place of acts", x.plan(), 1);
        Check.due("SUM anew", x.of(7), x.of(5));
        Check.due("CODE stays", x.of(3), 0);
        Check.due("MADE stays", x.of(4), 0);
    }

    private static void promise8() {
        CopyInserts x = Texts.of("abcdef", "");
        Check.due("no acts", x.cost(), 0);
        x.add(0, 0, 2);
        Check.due("COPY at 0", x.cost(), 4);
        x.add(0, 2, 2);
        Check.due("COPY at THE SPOT", x.cost(), 8);
        x.add(0, 3, 1);
        Check.due("COPY below THE SPOT", x.cost(), 14);
        x.add(1, 70, 40);
        Check.due("SELF", x.cost(), 18);
        x.lay(1);
        x.lay(1);
        Check.due("LAY of 2", x.cost(), 26);
        x.add(0, 4, 40);
        Check.due("THE SPOT stays behind SELF and LAY", x.cost(), 30);
        x.add(0, 44, 1);
        Check.due("THE SPOT beyond OLD", x.cost(), 34);
        x.costs(10, 20, 30, 40, 50);
        Check.due("by other numbers", x.cost(), 50 + 20 + 30 + 140);
        x.costs(100, 100, 100, 100, 100);
        x.empty();
        for (int i = 0; i < 100; i++) {
            x.add(0, 79, 40);
        }
        Check.due("100 dear ones", x.cost(), 20000);
    }

    private static void promise9() {
        CopyInserts x = Texts.of("abcdef", "abcdef");
        Check.due("rest(0, 0)", x.rest(0, 0), 4);
        Check.due("rest(0, 6)", x.rest(0, 6), 6);
        Check.due("rest(3, 3)", x.rest(3, 3), 4);
        Check.due("rest(3, 2)", x.rest(3, 2), 6);
        Check.due("rest(5, 5)", x.rest(5, 5), 4);
        Check.due("rest(5, 0)", x.rest(5, 0), 5);
        Check.due("rest(6, 6)", x.rest(6, 6), 0);
        Check.due("rest(6, 0)", x.rest(6, 0), 0);
        for (int value : new int[] {-1, 7, 41, Integer.MIN_VALUE, Integer.MAX_VALUE}) {
            Check.due("place " + value, x.rest(value, 0), CopyInserts.BAD);
            Check.due("spot " + value, x.rest(0, value), CopyInserts.BAD);
        }
        CopyInserts again = Texts.of("", "abab");
        Check.due("what is made ahead is there for SELF", again.rest(2, 0), 4);
        Check.due("and not at the first place", again.rest(0, 0), 12);
        Check.due("spot beyond an empty OLD", again.rest(0, 1), CopyInserts.BAD);
        CopyInserts long1 = new CopyInserts();
        long1.costs(100, 100, 100, 100, 100);
        for (int i = 0; i < 40; i++) {
            long1.put(1, i);
            long1.put(0, 100 + i);
        }
        Check.due("the dearest", long1.rest(0, 40), 4100);
        Check.due("its last byte", long1.rest(39, 40), 200);
        Check.due("behind it", long1.rest(40, 40), 0);
        Check.due("THE PLAN stays", long1.of(2), 0);
    }

    private static void movedOf(String what, CopyInserts x, int... due) {
        String ahead = Texts.state(x);
        for (int way = 0; way < 5; way++) {
            Check.due(what + " moved(" + way + ")", x.moved(way), due[way]);
        }
        Check.dueText(what + " changes nothing", Texts.state(x), ahead);
    }

    private static void promise24() {
        movedOf("nothing", Texts.of("abc", ""), 0, 0, 0, 0, 0);
        movedOf("all", Texts.of("abc", "abc"), 0, 3, 0, 0, 0);
        movedOf("laid", Texts.of("", "abc"), 0, 0, 0, 0, 3);
        movedOf("turned", Texts.of("abcdef", "defabc"), 3, 0, 3, 0, 0);
        movedOf("with a gap", Texts.of("abcdef", "abcXdef"), 0, 6, 0, 0, 1);
        movedOf("again", Texts.of("abcdef", "cdefcdefQ"), 0, 0, 4, 4, 1);
        movedOf("overlapping", Texts.of("", "aaaaaa"), 0, 0, 0, 5, 1);
        CopyInserts byHand = Texts.of("abc", "abc");
        byHand.add(1, 0, 9);
        movedOf("of THE BEST PLAN, not THE PLAN", byHand, 0, 3, 0, 0, 0);
        for (int value : new int[] {-1, 5, Integer.MIN_VALUE, Integer.MAX_VALUE}) {
            Check.due("moved(" + value + ")", byHand.moved(value), CopyInserts.BAD);
        }
    }

    private static void staysUpToDate() {
        CopyInserts x = Texts.of("abc", "abc");
        Check.due("rest", x.rest(0, 0), 4);
        x.put(1, 'Z');
        Check.due("after put", x.rest(0, 0), 9);
        x.put(0, 'Z');
        Check.due("after put to OLD", x.rest(0, 0), 4);
        x.cut(0, 2);
        Check.due("after cut", x.rest(0, 0), 12);
        x.turn();
        Check.due("after turn", x.rest(0, 0), 4);
        x.costs(50, 2, 4, 2, 3);
        Check.due("after costs", x.rest(0, 0), 8);
        Check.due("moved after costs", x.moved(4), 2);
        x.clear();
        Check.due("after clear", x.rest(0, 0), 0);
        Check.due("moved after clear", x.moved(4), 0);
    }
}
