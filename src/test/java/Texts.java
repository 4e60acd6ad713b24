/**
 * What several tests do with an object: fill its texts, and tell its state as a text. The loops
 * spare calls, as an object is used for 512 at most.
 */
final class Texts {
    private Texts() {
    }

    static void put(CopyInserts x, int text, int... values) {
        for (int value : values) {
            x.put(text, value);
        }
    }

    static void put(CopyInserts x, int text, String letters) {
        for (int i = 0; i < letters.length(); i++) {
            x.put(text, letters.charAt(i));
        }
    }

    static CopyInserts of(String old, String made) {
        CopyInserts x = new CopyInserts();
        put(x, 0, old);
        put(x, 1, made);
        return x;
    }

    static String text(CopyInserts x, int text) {
        StringBuilder all = new StringBuilder();
        int size = x.of(text);
        for (int i = 0; i < size; i++) {
            all.append((char) x.at(text, i));
        }
        return all.toString();
    }

    static String made(CopyInserts x) {
        StringBuilder all = new StringBuilder();
        int size = x.of(4);
        for (int i = 0; i < size; i++) {
            all.append((char) x.made(i));
        }
        return all.toString();
    }

    static String code(CopyInserts x) {
        StringBuilder all = new StringBuilder();
        int size = x.of(3);
        for (int i = 0; i < size; i++) {
            all.append(i == 0 ? "" : " ").append(x.code(i));
        }
        return all.toString();
    }

    /** As "C p n", "S p n", "L bytes", with a comma between. */
    static String plan(CopyInserts x) {
        StringBuilder all = new StringBuilder();
        int size = x.of(2);
        for (int k = 0; k < size; k++) {
            int kind = x.act(k, 0);
            int n = x.act(k, 1);
            all.append(k == 0 ? "" : ", ").append("CSL".charAt(kind)).append(' ');
            if (kind != 2) {
                all.append(x.act(k, 2)).append(' ').append(n);
                continue;
            }
            for (int i = 0; i < n; i++) {
                all.append((char) x.laid(k, i));
            }
        }
        return all.toString();
    }

    /** What the call of tells. */
    static String numbers(CopyInserts x) {
        StringBuilder all = new StringBuilder();
        for (int what = 0; what <= 12; what++) {
            all.append(x.of(what)).append(' ');
        }
        return all.toString();
    }

    static String state(CopyInserts x) {
        StringBuilder all = new StringBuilder(numbers(x));
        return all.append(text(x, 0)).append('|').append(text(x, 1)).append('|').append(plan(x))
                .append('|').append(code(x)).append('|').append(made(x)).toString();
    }
}
