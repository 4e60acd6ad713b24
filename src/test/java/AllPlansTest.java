import java.util.ArrayList;
import java.util.List;

/**
 * Promises 7, 8, 9, 24 against every plan there is: for small texts all plans are tried one by one,
 * as the document tells them, and the first of the cheapest is held against what the class answers.
 */
public final class AllPlansTest {
    private record Act(int kind, int p, int n) {
    }

    private static final int[][] COSTS = {
        {4, 2, 4, 2, 3}, {0, 0, 0, 0, 0}, {1, 1, 1, 1, 1}, {2, 0, 2, 0, 1}, {1, 3, 1, 1, 0},
        {0, 1, 0, 1, 1}, {3, 1, 2, 0, 2}, {5, 0, 1, 1, 1}, {1, 0, 5, 1, 1}, {100, 100, 100, 0, 100},
    };

    private static String source;
    private static String target;
    private static int[] costs;
    private static List<Act> best;
    private static int bestCost;

    public static void main(String[] args) {
        List<String> olds = words(3);
        List<String> news = words(5);
        olds.addAll(List.of("abab", "abba", "aabb", "bbca", "cab"));
        news.addAll(List.of("abcab", "cabab", "acabb", "ccaac", "aaaaaa", "abaaba"));
        for (int[] numbers : COSTS) {
            for (String old : olds) {
                for (String made : news) {
                    compare(old, made, numbers);
                }
            }
        }
        Check.end();
    }

    private static List<String> words(int most) {
        List<String> all = new ArrayList<>(List.of(""));
        for (int from = 0, n = 0; n < most; n++) {
            int end = all.size();
            for (; from < end; from++) {
                all.add(all.get(from) + "a");
                all.add(all.get(from) + "b");
            }
        }
        return all;
    }

    private static void compare(String old, String made, int[] numbers) {
        source = old;
        target = made;
        costs = numbers;
        String name = "'" + old + "' to '" + made + "' by " + java.util.Arrays.toString(numbers);
        CopyInserts x = Texts.of(old, made);
        x.costs(numbers[0], numbers[1], numbers[2], numbers[3], numbers[4]);
        best = null;
        tryAll("", 0, 0, new ArrayList<>());
        Check.due("rest of " + name, x.rest(0, 0), bestCost);
        Check.due("plan() of " + name, x.plan(), best.size());
        Check.due("cost of " + name, x.cost(), bestCost);
        Check.dueText("plan of " + name, Texts.plan(x), told(best));
        Check.due("make() of " + name, x.make(), made.length());
        Check.due("isNew() of " + name, x.isNew(), 1);
        int[] moved = moved(best);
        for (int what = 0; what < 5; what++) {
            Check.due("moved(" + what + ") of " + name, x.moved(what), moved[what]);
        }
        if (made.length() > 2) {
            compareRests(x, name);
        }
    }

    private static void compareRests(CopyInserts x, String name) {
        for (int place = 1; place <= target.length(); place += 2) {
            for (int spot = 0; spot <= source.length(); spot++) {
                best = null;
                tryAll(target.substring(0, place), spot, 0, new ArrayList<>());
                Check.due("rest(" + place + ", " + spot + ") of " + name, x.rest(place, spot), bestCost);
            }
        }
    }

    private static void tryAll(String made, int spot, int cost, List<Act> acts) {
        if (made.length() == target.length()) {
            if (best == null || cost < bestCost || cost == bestCost && isAhead(acts, best)) {
                best = new ArrayList<>(acts);
                bestCost = cost;
            }
            return;
        }
        for (int p = 0; p < source.length(); p++) {
            for (int n = 1; p + n <= source.length(); n++) {
                int price = costs[0] + (p == spot ? 0 : costs[1]);
                go(made + source.substring(p, p + n), p + n, cost + price, acts, new Act(0, p, n));
            }
        }
        for (int p = 0; p < made.length(); p++) {
            StringBuilder longer = new StringBuilder(made);
            for (int n = 1; longer.length() < target.length(); n++) {
                longer.append(longer.charAt(p + n - 1));
                go(longer.toString(), spot, cost + costs[2], acts, new Act(1, p, n));
            }
        }
        for (int n = 1; made.length() + n <= target.length(); n++) {
            String longer = target.substring(0, made.length() + n);
            go(longer, spot, cost + costs[3] + costs[4] * n, acts, new Act(2, -1, n));
        }
    }

    private static void go(String made, int spot, int cost, List<Act> acts, Act act) {
        if (target.startsWith(made)) {
            acts.add(act);
            tryAll(made, spot, cost, acts);
            acts.remove(acts.size() - 1);
        }
    }

    private static boolean isAhead(List<Act> one, List<Act> other) {
        for (int k = 0; k < Math.min(one.size(), other.size()); k++) {
            Act a = one.get(k);
            Act b = other.get(k);
            if (!a.equals(b)) {
                return a.kind != b.kind ? a.kind < b.kind : a.n != b.n ? a.n > b.n : a.p < b.p;
            }
        }
        return false;
    }

    private static String told(List<Act> acts) {
        StringBuilder all = new StringBuilder();
        int at = 0;
        for (Act act : acts) {
            all.append(at == 0 ? "" : ", ").append("CSL".charAt(act.kind)).append(' ');
            all.append(act.kind == 2 ? target.substring(at, at + act.n) : act.p + " " + act.n);
            at += act.n;
        }
        return all.toString();
    }

    private static int[] moved(List<Act> acts) {
        int[] moved = new int[5];
        int spot = 0;
        for (Act act : acts) {
            if (act.kind == 0) {
                moved[act.p < spot ? 0 : act.p == spot ? 1 : 2] += act.n;
                spot = act.p + act.n;
            } else {
                moved[act.kind == 1 ? 3 : 4] += act.n;
            }
        }
        return moved;
    }
}
