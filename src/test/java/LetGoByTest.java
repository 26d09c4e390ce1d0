/** Promises 40 to 42: who let go. */
public final class LetGoByTest {
    public static void main(String[] args) {
        letGoBy();
        letGoAt();
        levels();
        Check.end();
    }

    /** Promise 40. */
    private static void letGoBy() {
        LateFalls x = Check.of("fall 2 3;hour 70;");
        Check.due("60 hours ago at most", x.letGoBy(0, 0, 1), 61);
        LateFalls y = Check.of("fall 2 3;hour 5;");
        Check.due("not ahead of hour 0", y.letGoBy(1, 2, 99), 6);
        LateFalls any = Check.of("fall 2 3;hour 9;hangs:weight;");
        Check.due("held as long as one likes", any.letGoBy(0, 0, 4), 61);
        Check.due("longer ago than hour 0", any.letGoBy(0, 0, 10), 0);
        LateFalls hour = Check.of("fall 2 3;hour 25;hangs:hour*2+level*10+column;");
        // Let go a hours ago, in hour 1 or 0 it hangs for 2 or 0 hours; ahead of that 2 * (25 - a) = a is never whole.
        Check.due("by the hour it was let go in", hour.letGoBy(0, 0, 1), 0);
        // With column 1: in hour 0 (1 = a), and from a = 2 on 2 * (25 - a) + 1 = a, so a = 17.
        Check.due("in column 1", hour.letGoBy(1, 0, 1), 122);
        Check.due("an hour ago", hour.letGoAt(1, 0, 1, 60), 160);
        Check.due("17 hours ago", hour.letGoAt(1, 0, 1, 61), 1700);
        LateFalls lying = Check.of("fall 1 3;thing 1 on 0;thing 1 on 0;hour 9;hangs:lying;");
        Check.due("as many as now lie there", lying.letGoAt(0, 0, 1, 0), 200);
        LateFalls floor = Check.of("fall 1 3;hour 9;hangs:held-50;");
        Check.due("0 at least: at once", floor.letGoBy(0, 0, 1), 51 + 9);
        Check.noSuch("letGoBy(2, 0, 0)", () -> x.letGoBy(2, 0, 0));
        Check.noSuch("letGoBy(0, 3, 1)", () -> x.letGoBy(0, 3, 1));
        Check.badArgument("letGoBy(0, 0, 0)", () -> x.letGoBy(0, 0, 0));
        Check.badArgument("letGoBy(0, 0, 100)", () -> x.letGoBy(0, 0, 100));
    }

    /** Promise 41. */
    private static void letGoAt() {
        LateFalls x = Check.of("fall 2 3;hour 9;hangs:held-50;");
        Check.due("the first", x.letGoAt(0, 0, 1, 0), 0);
        Check.due("the 51st", x.letGoAt(0, 0, 1, 50), 50);
        Check.due("the 52nd", x.letGoAt(0, 0, 1, 51), 151);
        Check.due("the 60th", x.letGoAt(0, 0, 1, 59), 959);
        Check.due("not so many", x.letGoAt(0, 0, 1, 60), LateFalls.NONE);
        LateFalls y = Check.of("fall 1 1;hour 70;");
        Check.due("60 hours ago", y.letGoAt(0, 0, 1, 60), 6060);
        Check.due("61 hours ago", y.letGoAt(0, 0, 1, 61), LateFalls.NONE);
        Check.due("by far not so many", x.letGoAt(0, 0, 1, Integer.MAX_VALUE), LateFalls.NONE);
        Check.noSuch("letGoAt(2, 0, 0, -1)", () -> x.letGoAt(2, 0, 0, -1));
        Check.noSuch("letGoAt(0, 3, 1, 0)", () -> x.letGoAt(0, 3, 1, 0));
        Check.badArgument("letGoAt(0, 0, 0, 0)", () -> x.letGoAt(0, 0, 0, 0));
        Check.badArgument("letGoAt(0, 0, 100, 0)", () -> x.letGoAt(0, 0, 100, 0));
        Check.badArgument("letGoAt(0, 0, 1, -1)", () -> x.letGoAt(0, 0, 1, -1));
    }

    /** Promise 42. */
    private static void levels() {
        LateFalls x = Check.of("fall 2 9;thing 1 on 0;hour 30;hangs:held+level*(level-3)+weight-lying;");
        // For a weight of 1, with one that lies: held + l * (l - 3), so 0 -2 -2 0 4 10 18 28 40 more than held.
        Check.due("as long as held", x.levels(0, 1, 5, 5), 9);
        Check.due("two less", x.levels(0, 1, 5, 7), 6);
        Check.due("0 at least", x.levels(0, 1, 0, 0), 15);
        Check.due("from the highest, not so long ago", x.levels(0, 1, 28, 0), 128);
        Check.due("where none lies: one more", x.levels(1, 1, 6, 5), 9);
        Check.due("from none", x.levels(0, 1, 3, 1), 0);
        Check.noSuch("levels(2, 0, 0, 0)", () -> x.levels(2, 0, 0, 0));
        Check.badArgument("levels(0, 0, 0, 0)", () -> x.levels(0, 0, 0, 0));
        Check.badArgument("levels(0, 100, 0, 0)", () -> x.levels(0, 100, 0, 0));
        Check.badArgument("levels(0, 1, -1, 0)", () -> x.levels(0, 1, -1, 0));
        Check.badArgument("levels(0, 1, 31, 0), ahead of hour 0", () -> x.levels(0, 1, 31, 0));
        Check.badArgument("levels(0, 1, 0, 61)", () -> x.levels(0, 1, 0, 61));
        Check.badArgument("levels(0, 1, 0, -1)", () -> x.levels(0, 1, 0, -1));
        LateFalls late = Check.of("fall 1 1;hour 99;");
        Check.due("levels(0, 1, 60, 60)", late.levels(0, 1, 60, 60), 1);
        Check.badArgument("levels(0, 1, 61, 0)", () -> late.levels(0, 1, 61, 0));
    }
}
