/** Counts answers that are not as due, and tells them. */
final class Checks {
    private static final int MOST_TOLD = 40;
    private int made;
    private int wrong;

    void same(String call, Object got, Object due) {
        made++;
        if (!String.valueOf(got).equals(String.valueOf(due))) {
            wrong++;
            if (wrong <= MOST_TOLD) {
                System.out.println(call + " answered " + got + ", due is " + due);
            }
        }
    }

    boolean isClean() {
        return wrong == 0;
    }

    void end() {
        System.out.println(made + " answers, " + wrong + " not as due");
        if (wrong > 0) {
            System.exit(1);
        }
    }
}
