/** What several tests do with an object: fill its texts, and tell its state as a text. */
final class Texts {
    private Texts() {
    }

    static void put(CopyInserts x, int text, int... values) {
        for (int value : values) {
            x.put(text, value);
        }
    }

    static void put(CopyInserts x, int text, String letters) {
        for (int i = 0; i < letters.length(); i++) {
            x.put(text, letters.charAt(i));
        }
    }

    static CopyInserts of(String old, String made) {
        CopyInserts x = new CopyInserts();
        put(x, 0, old);
        put(x, 1, made);
        return x;
    }

    static String text(CopyInserts x, int text) {
        StringBuilder all = new StringBuilder();
        for (int i = 0; i < x.of(text); i++) {
            all.append((char) x.at(text, i));
        }
        return all.toString();
    }

    static String made(CopyInserts x) {
        StringBuilder all = new StringBuilder();
        for (int i = 0; i < x.of(4); i++) {
            all.append((char) x.made(i));
        }
        return all.toString();
    }

    static String code(CopyInserts x) {
        StringBuilder all = new StringBuilder();
        for (int i = 0; i < x.of(3); i++) {
            all.append(i == 0 ? "" : " ").append(x.code(i));
        }
        return all.toString();
    }

    /** As "C p n", "S p n", "L bytes", with a comma between. */
    static String plan(CopyInserts x) {
        StringBuilder all = new StringBuilder();
        for (int k = 0; k < x.of(2); k++) {
            all.append(k == 0 ? "" : ", ").append("CSL".charAt(x.act(k, 0))).append(' ');
            if (x.act(k, 0) != 2) {
                all.append(x.act(k, 2)).append(' ').append(x.act(k, 1));
                continue;
            }
            for (int i = 0; i < x.act(k, 1); i++) {
                all.append((char) x.laid(k, i));
            }
        }
        return all.toString();
    }

    static String state(CopyInserts x) {
        StringBuilder all = new StringBuilder();
        for (int what = 0; what <= 12; what++) {
            all.append(x.of(what)).append(' ');
        }
        return all.append(text(x, 0)).append('|').append(text(x, 1)).append('|').append(plan(x))
                .append('|').append(code(x)).append('|').append(made(x)).toString();
    }
}
