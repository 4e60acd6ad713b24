/** Plans by which a new text is made of an old one; ../shared/DOC.md is what it keeps to. */
public final class CopyInserts {
    public static final int NONE = -1, BAD = -2, FULL = -3, OTHER = -4, FAULT = -1000;

    private static final int COPY = 0, SELF = 1, LAY = 2;
    private static final int MOST_BYTE = 255, MOST_NUMBER = 100;
    private static final int MOST_OF_TEXT = 40, MOST_MADE = 80;
    private static final int MOST_ACTS = 100, MOST_OF_ACT = 40, MOST_PLACE = 79;
    private static final int MOST_LAID = MOST_ACTS * MOST_OF_ACT;
    private static final int SUM_BYTES = 2, KIND_STEP = 64;
    private static final int MOST_CODE = SUM_BYTES + MOST_ACTS + MOST_LAID;
    private static final int SUM_OF_EMPTY = 1, SUM_FACTOR = 31, SUM_MODULUS = 65521;

    private final Row oldText;
    private final Row newText;
    private final Row product;
    private final Row coded;
    private final Numbers numbers;
    private final Acts acts;
    private final Search search;

    public CopyInserts() {
        oldText = new Row(MOST_OF_TEXT);
        newText = new Row(MOST_OF_TEXT);
        product = new Row(MOST_MADE);
        coded = new Row(MOST_CODE);
        numbers = new Numbers();
        acts = new Acts();
        search = new Search(oldText, newText, numbers);
    }

    public int clear() {
        int had = oldText.length() + newText.length();
        oldText.dropAll();
        newText.dropAll();
        product.dropAll();
        coded.dropAll();
        numbers.setFirstOnes();
        acts.begin(SUM_OF_EMPTY);
        search.forget();
        return had;
    }

    public int put(int text, int value) {
        if (!isText(text) || !isByte(value)) {
            return BAD;
        }
        Row row = textOf(text);
        if (row.isFull()) {
            return FULL;
        }
        row.append(value);
        search.forget();
        return row.length();
    }

    public int cut(int text, int n) {
        if (!isText(text)) {
            return BAD;
        }
        Row row = textOf(text);
        if (n < 0 || n > row.length()) {
            return BAD;
        }
        row.dropLast(n);
        search.forget();
        return row.length();
    }

    public int turn() {
        oldText.changeFor(newText);
        search.forget();
        return oldText.length();
    }

    public int costs(int copying, int seeking, int again, int laying, int bytewise) {
        if (!isNumber(copying) || !isNumber(seeking) || !isNumber(again)
                || !isNumber(laying) || !isNumber(bytewise)) {
            return BAD;
        }
        int changed = numbers.countOthers(copying, seeking, again, laying, bytewise);
        numbers.set(copying, seeking, again, laying, bytewise);
        search.forget();
        return changed;
    }

    public int plan() {
        acts.begin(oldText.sum());
        search.begin();
        for (int k = 0; k < MOST_OF_TEXT && search.findNext(); k++) {
            takeFoundAct();
        }
        return acts.length();
    }

    public int cost() {
        int total = 0;
        for (int k = 0; k < acts.length(); k++) {
            total += costOf(k);
        }
        return total;
    }

    public int rest(int place, int spot) {
        if (place < 0 || place > newText.length() || spot < 0 || spot > oldText.length()) {
            return BAD;
        }
        search.workOut();
        return search.leastFrom(place, spot);
    }

    public int match(int text, int p, int i) {
        if (!isText(text) || !textOf(text).has(p) || !newText.has(i)) {
            return BAD;
        }
        return textOf(text).countSame(p, newText, i);
    }

    public int act(int k, int what) {
        if (!acts.has(k)) {
            return BAD;
        }
        switch (what) {
            case 0:
                return acts.kind(k);
            case 1:
                return acts.count(k);
            case 2:
                return acts.place(k);
            case 3:
                return acts.spotAhead(k);
            case 4:
                return costOf(k);
            default:
                return BAD;
        }
    }

    public int laid(int k, int i) {
        if (!acts.has(k) || acts.kind(k) != LAY || i < 0 || i >= acts.count(k)) {
            return BAD;
        }
        return acts.laidByte(k, i);
    }

    public int empty() {
        int had = acts.length();
        acts.begin(oldText.sum());
        return had;
    }

    public int add(int kind, int p, int n) {
        if (kind != COPY && kind != SELF) {
            return BAD;
        }
        if (p < 0 || p > MOST_PLACE || n < 1 || n > MOST_OF_ACT) {
            return BAD;
        }
        if (acts.isFull()) {
            return FULL;
        }
        acts.append(kind, p, n);
        return acts.length();
    }

    public int lay(int value) {
        if (!isByte(value)) {
            return BAD;
        }
        if (!acts.takesByte()) {
            if (acts.isFull()) {
                return FULL;
            }
            acts.openLay();
        }
        acts.layByte(value);
        return acts.length();
    }

    public int make() {
        if (oldText.sum() != acts.sum()) {
            return OTHER;
        }
        product.dropAll();
        for (int k = 0; k < acts.length(); k++) {
            if (fails(k)) {
                return FAULT - k;
            }
            perform(k);
        }
        return product.length();
    }

    public int made(int i) {
        return product.get(i);
    }

    public int isNew() {
        return product.isSame(newText) ? 1 : 0;
    }

    public int write() {
        coded.dropAll();
        coded.append(acts.sum() / (MOST_BYTE + 1));
        coded.append(acts.sum() % (MOST_BYTE + 1));
        for (int k = 0; k < acts.length(); k++) {
            writeAct(k);
        }
        return coded.length();
    }

    public int code(int i) {
        return coded.get(i);
    }

    public int poke(int i, int value) {
        if (!coded.has(i) || !isByte(value)) {
            return BAD;
        }
        int was = coded.get(i);
        coded.set(i, value);
        return was;
    }

    public int shorten(int n) {
        if (n < 0 || n > coded.length()) {
            return BAD;
        }
        coded.dropLast(n);
        return coded.length();
    }

    public int read() {
        int wrong = findWrongByte();
        if (wrong != NONE) {
            return FAULT - wrong;
        }
        acts.begin(coded.get(0) * (MOST_BYTE + 1) + coded.get(1));
        int place = SUM_BYTES;
        for (int k = 0; k < MOST_ACTS && place < coded.length(); k++) {
            place = readAct(place);
        }
        return acts.length();
    }

    public int moved(int what) {
        if (what < 0 || what > 4) {
            return BAD;
        }
        int total = 0;
        search.begin();
        for (int k = 0; k < MOST_OF_TEXT && search.findNext(); k++) {
            if (search.wayOfFound() == what) {
                total += search.foundCount();
            }
        }
        return total;
    }

    public int of(int what) {
        switch (what) {
            case 0:
                return oldText.length();
            case 1:
                return newText.length();
            case 2:
                return acts.length();
            case 3:
                return coded.length();
            case 4:
                return product.length();
            case 5:
                return oldText.sum();
            case 6:
                return newText.sum();
            case 7:
                return acts.sum();
            default:
                return numbers.get(what - 8);
        }
    }

    public int at(int text, int i) {
        if (!isText(text) || !textOf(text).has(i)) {
            return BAD;
        }
        return textOf(text).get(i);
    }

    private static boolean isText(int text) {
        return text == 0 || text == 1;
    }

    private static boolean isByte(int value) {
        return value >= 0 && value <= MOST_BYTE;
    }

    private static boolean isNumber(int value) {
        return value >= 0 && value <= MOST_NUMBER;
    }

    private Row textOf(int text) {
        return text == 0 ? oldText : newText;
    }

    private int costOf(int k) {
        switch (acts.kind(k)) {
            case COPY:
                return numbers.ofCopy(acts.place(k), acts.spotAhead(k));
            case SELF:
                return numbers.ofSelf();
            default:
                return numbers.ofLay(acts.count(k));
        }
    }

    private void takeFoundAct() {
        if (search.foundKind() != LAY) {
            acts.append(search.foundKind(), search.foundPlace(), search.foundCount());
            return;
        }
        acts.openLay();
        for (int j = 0; j < search.foundCount(); j++) {
            acts.layByte(newText.get(search.foundAt() + j));
        }
    }

    private boolean fails(int k) {
        int n = acts.count(k);
        if (product.length() + n > MOST_MADE) {
            return true;
        }
        switch (acts.kind(k)) {
            case COPY:
                return acts.place(k) + n > oldText.length();
            case SELF:
                return acts.place(k) >= product.length();
            default:
                return false;
        }
    }

    /** Byte by byte, as a SELF may take what it made itself just before. */
    private void perform(int k) {
        for (int j = 0; j < acts.count(k); j++) {
            product.append(byteOf(k, j));
        }
    }

    private int byteOf(int k, int j) {
        switch (acts.kind(k)) {
            case COPY:
                return oldText.get(acts.place(k) + j);
            case SELF:
                return product.get(acts.place(k) + j);
            default:
                return acts.laidByte(k, j);
        }
    }

    private void writeAct(int k) {
        coded.append(KIND_STEP * acts.kind(k) + acts.count(k));
        if (acts.kind(k) != LAY) {
            coded.append(acts.place(k));
            return;
        }
        for (int j = 0; j < acts.count(k); j++) {
            coded.append(acts.laidByte(k, j));
        }
    }

    /** All of CODE is looked at ahead of reading, as THE PLAN stays if any byte can't be. */
    private int findWrongByte() {
        int end = coded.length();
        if (end < SUM_BYTES) {
            return end;
        }
        int place = SUM_BYTES;
        for (int k = 0; k < MOST_ACTS && place < end; k++) {
            int kind = coded.get(place) / KIND_STEP;
            int n = coded.get(place) % KIND_STEP;
            if (kind > LAY || n < 1 || n > MOST_OF_ACT) {
                return place;
            }
            int behind = place + 1 + (kind == LAY ? n : 1);
            if (behind > end) {
                return end;
            }
            if (kind != LAY && coded.get(place + 1) > MOST_PLACE) {
                return place + 1;
            }
            place = behind;
        }
        return place < end ? place : NONE;
    }

    /** Answers the place behind the ACT; only for CODE in which no byte is wrong. */
    private int readAct(int place) {
        int kind = coded.get(place) / KIND_STEP;
        int n = coded.get(place) % KIND_STEP;
        if (kind != LAY) {
            acts.append(kind, coded.get(place + 1), n);
            return place + 2;
        }
        acts.openLay();
        for (int j = 1; j <= n; j++) {
            acts.layByte(coded.get(place + j));
        }
        return place + 1 + n;
    }

    /** A row of bytes with room for a stated number of them. */
    private static final class Row {
        private int[] values;
        private int size;

        Row(int most) {
            values = new int[Math.max(0, most)];
        }

        int length() {
            return size;
        }

        boolean isFull() {
            return size >= values.length;
        }

        boolean has(int i) {
            return i >= 0 && i < size;
        }

        int get(int i) {
            return has(i) ? values[i] : NONE;
        }

        void set(int i, int value) {
            if (has(i)) {
                values[i] = value;
            }
        }

        void append(int value) {
            if (!isFull()) {
                values[size] = value;
                size++;
            }
        }

        void dropLast(int n) {
            size -= Math.max(0, Math.min(n, size));
        }

        void dropAll() {
            size = 0;
        }

        void changeFor(Row other) {
            int[] hisValues = other.values;
            int hisSize = other.size;
            other.values = values;
            other.size = size;
            values = hisValues;
            size = hisSize;
        }

        int sum() {
            int sum = SUM_OF_EMPTY;
            for (int i = 0; i < size; i++) {
                sum = (sum * SUM_FACTOR + values[i]) % SUM_MODULUS;
            }
            return sum;
        }

        int countSame(int from, Row other, int otherFrom) {
            if (!has(from) || !other.has(otherFrom)) {
                return 0;
            }
            int most = Math.min(size - from, other.size - otherFrom);
            for (int n = 0; n < most; n++) {
                if (values[from + n] != other.values[otherFrom + n]) {
                    return n;
                }
            }
            return most;
        }

        boolean isSame(Row other) {
            return size == other.size && countSame(0, other, 0) == size;
        }
    }

    /** The five numbers that COSTS are made of. */
    private static final class Numbers {
        private int copying;
        private int seeking;
        private int again;
        private int laying;
        private int bytewise;

        Numbers() {
            setFirstOnes();
        }

        void setFirstOnes() {
            set(4, 2, 4, 2, 3);
        }

        void set(int newCopying, int newSeeking, int newAgain, int newLaying, int newBytewise) {
            copying = newCopying;
            seeking = newSeeking;
            again = newAgain;
            laying = newLaying;
            bytewise = newBytewise;
        }

        int countOthers(int hisCopying, int hisSeeking, int hisAgain, int hisLaying, int hisBytewise) {
            return oneIfOther(copying, hisCopying) + oneIfOther(seeking, hisSeeking)
                    + oneIfOther(again, hisAgain) + oneIfOther(laying, hisLaying)
                    + oneIfOther(bytewise, hisBytewise);
        }

        private static int oneIfOther(int a, int b) {
            return a == b ? 0 : 1;
        }

        int get(int i) {
            switch (i) {
                case 0:
                    return copying;
                case 1:
                    return seeking;
                case 2:
                    return again;
                case 3:
                    return laying;
                case 4:
                    return bytewise;
                default:
                    return BAD;
            }
        }

        int ofCopy(int p, int spot) {
            return p == spot ? copying : copying + seeking;
        }

        int ofSelf() {
            return again;
        }

        int ofLay(int n) {
            return laying + bytewise * n;
        }
    }

    /** THE PLAN. The bytes of all its LAYS stand in one row, in the order of the ACTS. */
    private static final class Acts {
        private final int[] kinds = new int[MOST_ACTS];
        private final int[] places = new int[MOST_ACTS];
        private final int[] counts = new int[MOST_ACTS];
        private final int[] laidFrom = new int[MOST_ACTS];
        private final Row laidBytes = new Row(MOST_LAID);
        private int size;
        private int sumOfOld = SUM_OF_EMPTY;

        void begin(int sum) {
            size = 0;
            laidBytes.dropAll();
            sumOfOld = sum;
        }

        int length() {
            return size;
        }

        int sum() {
            return sumOfOld;
        }

        boolean isFull() {
            return size >= MOST_ACTS;
        }

        boolean has(int k) {
            return k >= 0 && k < size;
        }

        int kind(int k) {
            return has(k) ? kinds[k] : NONE;
        }

        int count(int k) {
            return has(k) ? counts[k] : 0;
        }

        int place(int k) {
            return has(k) ? places[k] : NONE;
        }

        int laidByte(int k, int i) {
            return has(k) ? laidBytes.get(laidFrom[k] + i) : NONE;
        }

        int spotAhead(int k) {
            for (int j = Math.min(k, size) - 1; j >= 0; j--) {
                if (kinds[j] == COPY) {
                    return places[j] + counts[j];
                }
            }
            return 0;
        }

        void append(int kind, int p, int n) {
            if (!isFull()) {
                kinds[size] = kind;
                places[size] = p;
                counts[size] = n;
                laidFrom[size] = laidBytes.length();
                size++;
            }
        }

        void openLay() {
            append(LAY, NONE, 0);
        }

        boolean takesByte() {
            return kind(size - 1) == LAY && count(size - 1) < MOST_OF_ACT;
        }

        void layByte(int value) {
            if (takesByte()) {
                laidBytes.append(value);
                counts[size - 1]++;
            }
        }
    }

    /** Finds THE REST of every place and SPOT, and with it THE BEST PLAN, ACT by ACT. */
    private static final class Search {
        private static final int STATES = MOST_OF_TEXT + 1;
        /** Above every COST, and far from overflow when numbers are added to it. */
        private static final int NEVER = 1000000;

        private final Row source;
        private final Row target;
        private final Numbers numbers;
        private final int[] least = new int[STATES * STATES];
        private final int[] behindCopy = new int[STATES];
        private final int[] behindLay = new int[STATES];
        private boolean known;
        private int nextAt;
        private int nextSpot;
        private int kind;
        private int place;
        private int count;
        private int spotAhead;

        Search(Row source, Row target, Numbers numbers) {
            this.source = source;
            this.target = target;
            this.numbers = numbers;
        }

        void forget() {
            known = false;
        }

        int leastFrom(int i, int spot) {
            boolean there = i >= 0 && i < STATES && spot >= 0 && spot < STATES;
            return there ? least[i * STATES + spot] : NEVER;
        }

        /** The table is kept until a TEXT or a number changes, as many calls may ask of the same. */
        void workOut() {
            if (known) {
                return;
            }
            int end = Math.min(target.length(), MOST_OF_TEXT);
            for (int s = 0; s < STATES; s++) {
                least[end * STATES + s] = 0;
                behindCopy[s] = NEVER;
                behindLay[s] = NEVER;
            }
            for (int i = end - 1; i >= 0; i--) {
                workOutPlace(i);
            }
            known = true;
        }

        private void workOutPlace(int i) {
            int elsewhere = lengthenCopies(i);
            int mostAgain = longestAgain(i);
            int spots = Math.min(source.length(), MOST_OF_TEXT);
            for (int s = 0; s <= spots; s++) {
                behindLay[s] = numbers.bytewise + Math.min(leastFrom(i + 1, s), behindLay[s]);
                int best = numbers.laying + behindLay[s];
                best = Math.min(best, numbers.copying + behindCopy[s]);
                best = Math.min(best, numbers.copying + numbers.seeking + elsewhere);
                best = Math.min(best, numbers.again + leastBehindSelf(i, s, mostAgain));
                least[i * STATES + s] = best;
            }
        }

        /**
         * Makes behindCopy[p] the least REST behind any COPY that begins at p and makes place i on,
         * and answers the least of them all. It held the same for i + 1; p goes upwards, so that
         * p + 1 still tells of i + 1, where a longer COPY goes on.
         */
        private int lengthenCopies(int i) {
            int leastOfAll = NEVER;
            int end = Math.min(source.length(), MOST_OF_TEXT);
            for (int p = 0; p < end; p++) {
                behindCopy[p] = source.get(p) == target.get(i)
                        ? Math.min(leastFrom(i + 1, p + 1), behindCopy[p + 1]) : NEVER;
                leastOfAll = Math.min(leastOfAll, behindCopy[p]);
            }
            return leastOfAll;
        }

        private int longestAgain(int i) {
            int longest = 0;
            for (int p = 0; p < i; p++) {
                longest = Math.max(longest, target.countSame(p, target, i));
            }
            return longest;
        }

        private int leastBehindSelf(int i, int spot, int most) {
            int leastOfAll = NEVER;
            for (int n = 1; n <= most; n++) {
                leastOfAll = Math.min(leastOfAll, leastFrom(i + n, spot));
            }
            return leastOfAll;
        }

        void begin() {
            workOut();
            nextAt = 0;
            nextSpot = 0;
        }

        /** Whether there is one more ACT of THE BEST PLAN; it is found then. */
        boolean findNext() {
            if (nextAt >= target.length()) {
                return false;
            }
            spotAhead = nextSpot;
            choose(nextAt, nextSpot);
            nextAt += count;
            if (kind == COPY) {
                nextSpot = place + count;
            }
            return count > 0;
        }

        int foundKind() {
            return kind;
        }

        int foundPlace() {
            return place;
        }

        int foundCount() {
            return count;
        }

        /** The place of NEW where the ACT begins. */
        int foundAt() {
            return nextAt - count;
        }

        /** As the call moved counts them: COPY from below, at, above THE SPOT; SELF; LAY. */
        int wayOfFound() {
            if (kind == COPY) {
                return 1 + Integer.compare(place, spotAhead);
            }
            return kind == SELF ? 3 : 4;
        }

        /** The KINDS in THE ORDER: the first one by which the least COST can be had is the one. */
        private void choose(int i, int spot) {
            int due = leastFrom(i, spot);
            count = 0;
            chooseCopy(i, spot, due);
            if (count == 0) {
                chooseSelf(i, spot, due);
            }
            if (count == 0) {
                chooseLay(i, spot, due);
            }
        }

        /** Only a longer one takes the place of an earlier p, so that the lesser p stays. */
        private void chooseCopy(int i, int spot, int due) {
            for (int p = 0; p < source.length(); p++) {
                int behind = due - numbers.ofCopy(p, spot);
                for (int n = source.countSame(p, target, i); n > count; n--) {
                    if (leastFrom(i + n, p + n) == behind) {
                        keep(COPY, p, n);
                    }
                }
            }
        }

        private void chooseSelf(int i, int spot, int due) {
            int behind = due - numbers.ofSelf();
            for (int p = 0; p < i; p++) {
                for (int n = target.countSame(p, target, i); n > count; n--) {
                    if (leastFrom(i + n, spot) == behind) {
                        keep(SELF, p, n);
                    }
                }
            }
        }

        private void chooseLay(int i, int spot, int due) {
            for (int n = target.length() - i; n > count; n--) {
                if (leastFrom(i + n, spot) == due - numbers.ofLay(n)) {
                    keep(LAY, NONE, n);
                }
            }
        }

        private void keep(int betterKind, int betterPlace, int betterCount) {
            kind = betterKind;
            place = betterPlace;
            count = betterCount;
        }
    }
}
