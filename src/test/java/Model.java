import java.util.ArrayList;
import java.util.HashMap;
import java.util.List;
import java.util.Map;

/** The document once more, written as simply as can be with lists, to hold random runs against. */
final class Model {
    private static final int NONE = -1, BAD = -2, FULL = -3, OTHER = -4, FAULT = -1000;

    private record Act(int kind, int p, int n, List<Integer> bytes) {
    }

    /** The best acts from a place on: the first one, and the best ones behind it. */
    private record Way(int cost, Act first, Way behind) {
    }

    private List<List<Integer>> texts;
    private int[] costs;
    private List<Act> plan;
    private int planSum;
    private List<Integer> code;
    private List<Integer> made;
    private Map<Integer, Way> ways;

    Model() {
        reset();
    }

    private void reset() {
        texts = new ArrayList<>(List.of(new ArrayList<>(), new ArrayList<>()));
        costs = new int[] {4, 2, 4, 2, 3};
        plan = new ArrayList<>();
        planSum = 1;
        code = new ArrayList<>();
        made = new ArrayList<>();
    }

    private static boolean in(int value, int least, int most) {
        return value >= least && value <= most;
    }

    private static int sum(List<Integer> text) {
        long sum = 1;
        for (int value : text) {
            sum = (sum * 31 + value) % 65521;
        }
        return (int) sum;
    }

    private List<Integer> old() {
        return texts.get(0);
    }

    private List<Integer> fresh() {
        return texts.get(1);
    }

    int clear() {
        int had = old().size() + fresh().size();
        reset();
        return had;
    }

    int put(int text, int value) {
        if (!in(text, 0, 1) || !in(value, 0, 255)) {
            return BAD;
        }
        if (texts.get(text).size() == 40) {
            return FULL;
        }
        texts.get(text).add(value);
        return texts.get(text).size();
    }

    private static int drop(List<Integer> row, int n) {
        if (!in(n, 0, row.size())) {
            return BAD;
        }
        row.subList(row.size() - n, row.size()).clear();
        return row.size();
    }

    int cut(int text, int n) {
        return in(text, 0, 1) ? drop(texts.get(text), n) : BAD;
    }

    int turn() {
        texts.add(texts.remove(0));
        return old().size();
    }

    int costs(int... numbers) {
        int others = 0;
        for (int i = 0; i < 5; i++) {
            if (!in(numbers[i], 0, 100)) {
                return BAD;
            }
            others += numbers[i] == costs[i] ? 0 : 1;
        }
        costs = numbers.clone();
        return others;
    }

    private int price(Act act, int spot) {
        return switch (act.kind) {
            case 0 -> costs[0] + (act.p == spot ? 0 : costs[1]);
            case 1 -> costs[2];
            default -> costs[3] + costs[4] * act.n;
        };
    }

    private static boolean isAhead(Act a, Act b) {
        return a.kind != b.kind ? a.kind < b.kind : a.n != b.n ? a.n > b.n : a.p < b.p;
    }

    private Way best() {
        ways = new HashMap<>();
        return way(0, 0);
    }

    private Way way(int i, int spot) {
        if (i == fresh().size()) {
            return new Way(0, null, null);
        }
        Way known = ways.get(i * 100 + spot);
        if (known != null) {
            return known;
        }
        Way best = null;
        for (Act act : actsAt(i)) {
            Way behind = way(i + act.n, act.kind == 0 ? act.p + act.n : spot);
            int cost = behind.cost + price(act, spot);
            if (best == null || cost < best.cost || cost == best.cost && isAhead(act, best.first)) {
                best = new Way(cost, act, behind);
            }
        }
        ways.put(i * 100 + spot, best);
        return best;
    }

    private List<Act> actsAt(int i) {
        List<Act> acts = new ArrayList<>();
        List<Integer> wanted = fresh();
        for (int p = 0; p < old().size(); p++) {
            for (int n = 1; n <= same(old(), p, i); n++) {
                acts.add(new Act(0, p, n, null));
            }
        }
        for (int p = 0; p < i; p++) {
            for (int n = 1; n <= same(wanted, p, i); n++) {
                acts.add(new Act(1, p, n, null));
            }
        }
        for (int n = 1; i + n <= wanted.size(); n++) {
            acts.add(new Act(2, NONE, n, wanted.subList(i, i + n)));
        }
        return acts;
    }

    private int same(List<Integer> text, int p, int i) {
        int n = 0;
        while (p + n < text.size() && i + n < fresh().size() && text.get(p + n).equals(fresh().get(i + n))) {
            n++;
        }
        return n;
    }

    int plan() {
        plan = new ArrayList<>();
        planSum = sum(old());
        for (Way way = best(); way.first != null; way = way.behind) {
            Act act = way.first;
            plan.add(new Act(act.kind, act.p, act.n, act.bytes == null ? null : new ArrayList<>(act.bytes)));
        }
        return plan.size();
    }

    int cost() {
        int cost = 0;
        for (int k = 0; k < plan.size(); k++) {
            cost += act(k, 4);
        }
        return cost;
    }

    int rest(int place, int spot) {
        if (!in(place, 0, fresh().size()) || !in(spot, 0, old().size())) {
            return BAD;
        }
        ways = new HashMap<>();
        return way(place, spot).cost;
    }

    int match(int text, int p, int i) {
        if (!in(text, 0, 1) || !in(p, 0, texts.get(text).size() - 1) || !in(i, 0, fresh().size() - 1)) {
            return BAD;
        }
        return same(texts.get(text), p, i);
    }

    int act(int k, int what) {
        if (!in(k, 0, plan.size() - 1) || !in(what, 0, 4)) {
            return BAD;
        }
        int spot = 0;
        for (Act ahead : plan.subList(0, k)) {
            spot = ahead.kind == 0 ? ahead.p + ahead.n : spot;
        }
        Act act = plan.get(k);
        return new int[] {act.kind, act.n, act.p, spot, price(act, spot)}[what];
    }

    int laid(int k, int i) {
        if (!in(k, 0, plan.size() - 1) || plan.get(k).kind != 2 || !in(i, 0, plan.get(k).n - 1)) {
            return BAD;
        }
        return plan.get(k).bytes.get(i);
    }

    int empty() {
        int had = plan.size();
        plan = new ArrayList<>();
        planSum = sum(old());
        return had;
    }

    int add(int kind, int p, int n) {
        if (!in(kind, 0, 1) || !in(p, 0, 79) || !in(n, 1, 40)) {
            return BAD;
        }
        if (plan.size() == 100) {
            return FULL;
        }
        plan.add(new Act(kind, p, n, null));
        return plan.size();
    }

    int lay(int value) {
        if (!in(value, 0, 255)) {
            return BAD;
        }
        Act last = plan.isEmpty() ? null : plan.get(plan.size() - 1);
        List<Integer> bytes = new ArrayList<>();
        if (last != null && last.kind == 2 && last.n < 40) {
            bytes.addAll(last.bytes);
            plan.remove(plan.size() - 1);
        } else if (plan.size() == 100) {
            return FULL;
        }
        bytes.add(value);
        plan.add(new Act(2, NONE, bytes.size(), bytes));
        return plan.size();
    }

    int make() {
        if (planSum != sum(old())) {
            return OTHER;
        }
        made = new ArrayList<>();
        for (int k = 0; k < plan.size(); k++) {
            Act act = plan.get(k);
            if (made.size() + act.n > 80 || act.kind == 0 && act.p + act.n > old().size()
                    || act.kind == 1 && act.p >= made.size()) {
                return FAULT - k;
            }
            List<Integer> from = act.kind == 0 ? old() : act.kind == 1 ? made : act.bytes;
            for (int j = 0; j < act.n; j++) {
                made.add(from.get(act.kind == 2 ? j : act.p + j));
            }
        }
        return made.size();
    }

    int made(int i) {
        return in(i, 0, made.size() - 1) ? made.get(i) : NONE;
    }

    int isNew() {
        return made.equals(fresh()) ? 1 : 0;
    }

    int write() {
        code = new ArrayList<>(List.of(planSum >> 8, planSum & 255));
        for (Act act : plan) {
            code.add(64 * act.kind + act.n);
            code.addAll(act.kind == 2 ? act.bytes : List.of(act.p));
        }
        return code.size();
    }

    int code(int i) {
        return in(i, 0, code.size() - 1) ? code.get(i) : NONE;
    }

    int poke(int i, int value) {
        return in(i, 0, code.size() - 1) && in(value, 0, 255) ? code.set(i, value) : BAD;
    }

    int shorten(int n) {
        return drop(code, n);
    }

    int read() {
        if (code.size() < 2) {
            return FAULT - code.size();
        }
        List<Act> acts = new ArrayList<>();
        int i = 2;
        while (i < code.size()) {
            int head = i;
            int kind = code.get(i) >> 6;
            int n = code.get(i) & 63;
            i++;
            if (acts.size() == 100 || kind == 3 || n == 0 || n > 40) {
                return FAULT - head;
            }
            List<Integer> bytes = new ArrayList<>();
            for (int j = 0; j < (kind == 2 ? n : 1); j++) {
                if (i == code.size()) {
                    return FAULT - i;
                }
                if (kind != 2 && code.get(i) > 79) {
                    return FAULT - i;
                }
                bytes.add(code.get(i));
                i++;
            }
            acts.add(kind == 2 ? new Act(2, NONE, n, bytes) : new Act(kind, bytes.get(0), n, null));
        }
        plan = acts;
        planSum = code.get(0) * 256 + code.get(1);
        return plan.size();
    }

    int moved(int what) {
        if (!in(what, 0, 4)) {
            return BAD;
        }
        int[] moved = new int[5];
        int spot = 0;
        for (Way way = best(); way.first != null; way = way.behind) {
            Act act = way.first;
            moved[act.kind > 0 ? act.kind + 2 : act.p < spot ? 0 : act.p == spot ? 1 : 2] += act.n;
            spot = act.kind == 0 ? act.p + act.n : spot;
        }
        return moved[what];
    }

    int of(int what) {
        if (!in(what, 0, 12)) {
            return BAD;
        }
        return new int[] {old().size(), fresh().size(), plan.size(), code.size(), made.size(),
            sum(old()), sum(fresh()), planSum, costs[0], costs[1], costs[2], costs[3], costs[4]}[what];
    }

    int at(int text, int i) {
        return in(text, 0, 1) && in(i, 0, texts.get(text).size() - 1) ? texts.get(text).get(i) : BAD;
    }
}
