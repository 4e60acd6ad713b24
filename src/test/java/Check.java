/** Counts the answers that are not the ones due, and ends a test with exit code 1 if there was one. */
final class Check {
    private static final int MOST_PRINTED = 50;
    private static int wrong = 0;
    private static int checked = 0;
    private static String ahead = "";

    private Check() {
    }

    /** What is printed behind this is told with the case's name. */
    static void begin(String name) {
        ahead = name.isEmpty() ? "" : name + ": ";
    }

    static int checked() {
        return checked;
    }

    static void due(String call, long got, long want) {
        checked++;
        if (got != want) {
            wrong++;
            if (wrong <= MOST_PRINTED) {
                System.out.println(ahead + call + " answered " + got + ", due is " + want);
            }
        }
    }

    static void dueText(String what, String got, String want) {
        due(what + ": " + got + " where due is " + want + ", same", got.equals(want) ? 1 : 0, 1);
    }

    static void end() {
        System.out.println(checked + " answers, " + wrong + " of them not as due");
        if (wrong != 0) {
            System.exit(1);
        }
    }
}
