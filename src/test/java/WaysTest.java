/** Promises 35 to 39: ways below. */
public final class WaysTest {
    public static void main(String[] args) {
        safeWay();
        theFirstWay();
        safeWays();
        safeIn();
        shelter();
        later();
        Check.end();
    }

    private static void dueWay(LateFalls x, int from, int to, int... columns) {
        String way = "safeWay(" + from + ", " + to + ", ";
        Check.due(way + "0)", x.safeWay(from, to, 0), columns.length - 1);
        for (int k = 0; k <= 60; k++) {
            int due = k < columns.length ? columns[k] : LateFalls.NONE;
            Check.due(way + (10 + k) + ")", x.safeWay(from, to, 10 + k), due);
        }
    }

    /** Promise 35. */
    private static void safeWay() {
        LateFalls x = Check.of("fall 3 4;thing 1 up 1 1 for 1;thing 1 up 1 2 for 2;thing 1 up 1 3 for 3;");
        dueWay(x, 0, 0, 0);
        dueWay(x, 0, 2, 0, 0, 0, 0, 1, 2);
        dueWay(x, 0, 1, 0, 0, 0, 0, 1);
        dueWay(x, 1, 0, 1, 0);
        dueWay(x, 1, 1, 1);
        Check.noSuch("safeWay(3, 0, 1)", () -> x.safeWay(3, 0, 1));
        Check.noSuch("safeWay(0, 3, 1)", () -> x.safeWay(0, 3, 1));
        Check.noSuch("safeWay(-1, 0, 0)", () -> x.safeWay(-1, 0, 0));
        Check.badArgument("safeWay(0, 0, 1)", () -> x.safeWay(0, 0, 1));
        Check.badArgument("safeWay(0, 0, 9)", () -> x.safeWay(0, 0, 9));
        Check.badArgument("safeWay(0, 0, 71)", () -> x.safeWay(0, 0, 71));
        Check.badArgument("safeWay(0, 0, -1)", () -> x.safeWay(0, 0, -1));
        LateFalls none = Check.of("fall 3 2;thing 1 up 0 1 for 1;thing 1 up 1 1 for 1;thing 1 up 2 1 for 2;");
        Check.due("no way out", none.safeWay(0, 2, 0), LateFalls.NONE);
        Check.due("no way out, its columns", none.safeWay(0, 2, 10), LateFalls.NONE);
        Check.due("where one is already", none.safeWay(0, 0, 0), 0);
        dueWay(none, 1, 2, 1, 2);
    }

    private static void theFirstWay() {
        LateFalls x = Check.of("fall 6 3;thing 1 up 2 1 for 1;thing 1 up 2 2 for 2;");
        // Column 2 is shut for two hours: 0 and 1 lie open till then, and 0 comes first.
        dueWay(x, 1, 4, 1, 0, 1, 2, 3, 4);
    }

    /** Promise 36. */
    private static void safeWays() {
        LateFalls x = Check.of("fall 3 2;thing 1 up 1 1 for 2;");
        Check.due("safeWays(0, 0, 0)", x.safeWays(0, 0, 0), 1);
        Check.due("safeWays(0, 1, 0)", x.safeWays(0, 1, 0), 0);
        Check.due("safeWays(0, 1, 1)", x.safeWays(0, 1, 1), 1);
        Check.due("safeWays(0, 1, 2)", x.safeWays(0, 1, 2), 0);
        Check.due("safeWays(0, 2, 2)", x.safeWays(0, 2, 2), 1);
        Check.due("safeWays(0, 0, 2)", x.safeWays(0, 0, 2), 2);
        Check.due("safeWays(0, 1, 3)", x.safeWays(0, 1, 3), 3);
        LateFalls wide = Check.of("fall 6 1;");
        long sum = 0;
        for (int to = 0; to < 6; to++) {
            sum += wide.safeWays(2, to, 20);
        }
        Check.due("beyond an int's half, all of 20 hours", sum, waysOf(20, 2));
        Check.noSuch("safeWays(3, 0, 21)", () -> x.safeWays(3, 0, 21));
        Check.noSuch("safeWays(0, -1, 0)", () -> x.safeWays(0, -1, 0));
        Check.badArgument("safeWays(0, 0, 21)", () -> x.safeWays(0, 0, 21));
        Check.badArgument("safeWays(0, 0, -1)", () -> x.safeWays(0, 0, -1));
    }

    private static long waysOf(int n, int from) {
        if (from < 0 || from > 5) {
            return 0;
        }
        return n == 0 ? 1 : waysOf(n - 1, from - 1) + waysOf(n - 1, from) + waysOf(n - 1, from + 1);
    }

    /** Promise 37. */
    private static void safeIn() {
        LateFalls x = Check.of("fall 5 3;thing 1 up 1 1 for 1;thing 1 up 3 2 for 60;");
        Check.due("safeIn(1, 0)", x.safeIn(1, 0), 2);
        Check.due("safeIn(1, 1)", x.safeIn(1, 1), 5);
        Check.due("safeIn(1, 2)", x.safeIn(1, 2), 15);
        Check.due("safeIn(1, 59)", x.safeIn(1, 59), 31);
        Check.due("safeIn(1, 60)", x.safeIn(1, 60), 23);
        Check.noSuch("safeIn(5, 61)", () -> x.safeIn(5, 61));
        Check.badArgument("safeIn(0, 61)", () -> x.safeIn(0, 61));
        Check.badArgument("safeIn(0, -1)", () -> x.safeIn(0, -1));
    }

    /** Promise 38. */
    private static void shelter() {
        LateFalls x = Check.of("fall 3 3;thing 1 up 0 2 for 3;thing 1 up 1 2 for 9;thing 1 up 2 2 for 9;");
        Check.due("the first of two", x.shelter(), 1);
        LateFalls y = Check.of("fall 3 3;thing 1 up 0 2 for 60;thing 1 up 1 2 for 61;thing 1 up 2 2 for 90;");
        Check.due("60 at most", y.shelter(), 1);
        LateFalls z = Check.of("fall 2 3;thing 1 up 0 2 for 61;thing 1 on 0;");
        Check.due("beyond 60 counts for nothing", z.shelter(), 0);
        LateFalls all = Check.of("fall 2 4;thing 1 up 0 2 for 5;thing 1 up 1 1 for 4;thing 1 up 0 3 for 9;"
                + "frees:1=2;");
        Check.due("up to the first fall", all.shelter(), 0);
    }

    /** Promise 39. */
    private static void later() {
        LateFalls x = Check.of("fall 3 3;thing 5 up 0 2 for 1;thing 6 up 1 2 for 2;thing 7 up 2 2 for 3;walker 0 1 2;"
                + "hour 3;");
        // In hours 4, 5, 6 the walker is in 1, 2, 0; two hours later in 0, 1, 2.
        int[] due = {0, 0, 18, 0, 0, 18, 0, 0, 18};
        for (int n = 0; n <= 8; n++) {
            Check.due("later(0, " + n + ")", x.later(0, n), due[n]);
        }
        Check.noSuch("later(1, 9)", () -> x.later(1, 9));
        Check.noSuch("later(-1, 0)", () -> x.later(-1, 0));
        Check.badArgument("later(0, 9)", () -> x.later(0, 9));
        Check.badArgument("later(0, -1)", () -> x.later(0, -1));
    }
}
