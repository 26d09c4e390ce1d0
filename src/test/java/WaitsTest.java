/** Promises 28 to 34: waits. */
public final class WaitsTest {
    /** The district of the shared runs: 1 frees 2 in column 0 in two hours. */
    private static LateFalls some() {
        return Check.of("fall 3 4;thing 5 held 3;thing 2 up 0 3 for 2;thing 4 up 0 1 for 6;thing 7 on 1;thing 1 on 1;"
                + "walker 0 1;walker 2;hour 10;");
    }

    public static void main(String[] args) {
        fallsBy();
        waitFor();
        waitSafe();
        waitHurt();
        place();
        worst();
        both();
        Check.end();
    }

    /** Promise 28. */
    private static void fallsBy() {
        LateFalls x = some();
        Check.due("fallsBy(0, 2, 3, 7)", x.fallsBy(0, 2, 3, 7), 17);
        Check.due("set free after a wait", x.fallsBy(0, 0, 2, 1), 2);
        Check.due("on what fell", x.fallsBy(0, 0, 2, 2), 7);
        Check.due("where one hangs", x.fallsBy(0, 0, 3, 1), LateFalls.NONE);
        Check.due("where one hung", x.fallsBy(0, 0, 3, 2), 7);
        Check.due("where one lies then", x.fallsBy(0, 0, 1, 2), LateFalls.NONE);
        Check.due("where one lies", x.fallsBy(0, 1, 1, 0), LateFalls.NONE);
        Check.due("nothing was done", x.thing(0, 1), 0);
        Check.noSuch("fallsBy(5, 0, 0, 99)", () -> x.fallsBy(5, 0, 0, 99));
        Check.noSuch("fallsBy(1, 3, 0, 99)", () -> x.fallsBy(1, 3, 0, 99));
        Check.noSuch("fallsBy(1, 0, 4, 99)", () -> x.fallsBy(1, 0, 4, 99));
        Check.badState("fallsBy(1, 0, 0, 99)", () -> x.fallsBy(1, 0, 0, 99));
        Check.badState("fallsBy(3, 0, 0, 0)", () -> x.fallsBy(3, 0, 0, 0));
        Check.badArgument("fallsBy(0, 0, 0, 61)", () -> x.fallsBy(0, 0, 0, 61));
        Check.badArgument("fallsBy(0, 0, 0, -1)", () -> x.fallsBy(0, 0, 0, -1));
        LateFalls y = Check.of("fall 1 5;thing 5 held 0;thing 1 up 0 4 for 2;hangs:lying*10+hour;hour 23;");
        Check.due("set free ahead of its own time", y.fallsBy(0, 0, 2, 0), 2);
        Check.due("at once: its law gives 0 in hour 24", y.fallsBy(0, 0, 2, 1), 1);
        Check.due("lying and the hour as they are then", y.fallsBy(0, 0, 2, 5), 5 + 10 + 4);
    }

    /** Promise 29. */
    private static void waitFor() {
        LateFalls x = some();
        Check.due("waitFor(0, 2, 0, 3)", x.waitFor(0, 2, 0, 3), 0);
        Check.due("waitFor(0, 2, 0, 11)", x.waitFor(0, 2, 0, 11), 4);
        Check.due("waitFor(0, 2, 0, 12)", x.waitFor(0, 2, 0, 12), LateFalls.NONE);
        Check.due("waitFor(0, 2, 0, 125)", x.waitFor(0, 2, 0, 125), LateFalls.NONE);
        Check.due("the least of two", x.waitFor(0, 0, 2, 2), 0);
        Check.due("waitFor(0, 0, 2, 999)", x.waitFor(0, 0, 2, 999), LateFalls.NONE);
        Check.noSuch("waitFor(-1, 0, 0, 1000)", () -> x.waitFor(-1, 0, 0, 1000));
        Check.noSuch("waitFor(0, 0, -1, 0)", () -> x.waitFor(0, 0, -1, 0));
        Check.badState("waitFor(2, 0, 0, 1000)", () -> x.waitFor(2, 0, 0, 1000));
        Check.badArgument("waitFor(0, 0, 0, 1000)", () -> x.waitFor(0, 0, 0, 1000));
        Check.badArgument("waitFor(0, 0, 0, -1)", () -> x.waitFor(0, 0, 0, -1));
        LateFalls y = Check.of("fall 1 1;thing 5 held 0;");
        Check.due("waitFor(0, 0, 0, 0)", y.waitFor(0, 0, 0, 0), 0);
        Check.due("waitFor(0, 0, 0, 120)", y.waitFor(0, 0, 0, 120), 60);
    }

    /** Promise 30. */
    private static void waitSafe() {
        LateFalls x = some();
        Check.due("waitSafe(0, 0, 2)", x.waitSafe(0, 0, 2), 2);
        Check.due("waitSafe(0, 0, 1): it hurts, and then can't be", x.waitSafe(0, 0, 0), LateFalls.NONE);
        Check.due("waitSafe(0, 2, 0)", x.waitSafe(0, 2, 0), LateFalls.NONE);
        Check.noSuch("waitSafe(1, 0, 4)", () -> x.waitSafe(1, 0, 4));
        Check.noSuch("waitSafe(5, 0, 0)", () -> x.waitSafe(5, 0, 0));
        Check.badState("waitSafe(1, 0, 0)", () -> x.waitSafe(1, 0, 0));
        LateFalls y = Check.of("fall 2 2;thing 5 held 1;thing 9 up 1 1 for 1;walker 1;");
        Check.due("who is hurt elsewhere in that hour doesn't count", y.waitSafe(0, 0, 0), 0);
        LateFalls longest = Check.of("fall 2 2;thing 1 held 0;thing 9 up 1 1 for 60;walker 0;");
        Check.due("by the longest wait alone", longest.waitSafe(0, 1, 1), 60);
        LateFalls beyond = Check.of("fall 2 2;thing 1 held 0;thing 9 up 1 1 for 61;walker 0;");
        Check.due("a wait too long", beyond.waitSafe(0, 1, 1), LateFalls.NONE);
        LateFalls z = Check.of("fall 2 2;thing 5 held 0;walker 0 0 0 1;walker 0 1;");
        // It falls in hour 2w: walkers are both elsewhere in no hour but 3 modulo 4.
        Check.due("never safe", z.waitSafe(0, 0, 0), LateFalls.NONE);
    }

    /** Promise 31. */
    private static void waitHurt() {
        LateFalls x = some();
        Check.due("waitHurt(0, 2, 0, 1)", x.waitHurt(0, 2, 0, 1), 0);
        Check.due("waitHurt(0, 0, 3, 0)", x.waitHurt(0, 0, 3, 0), LateFalls.NONE);
        Check.due("waitHurt(0, 0, 2, 0)", x.waitHurt(0, 0, 2, 0), 0);
        Check.noSuch("waitHurt(1, 0, 0, 2)", () -> x.waitHurt(1, 0, 0, 2));
        Check.noSuch("waitHurt(1, 0, 0, -1)", () -> x.waitHurt(1, 0, 0, -1));
        Check.noSuch("waitHurt(1, 3, 0, 0)", () -> x.waitHurt(1, 3, 0, 0));
        Check.badState("waitHurt(1, 0, 0, 0)", () -> x.waitHurt(1, 0, 0, 0));
        LateFalls y = Check.of("fall 2 2;thing 5 held 1;walker 0 0 0 1;");
        // It falls in hour 2w + 1.
        Check.due("waitHurt(0, 1, 0, 0)", y.waitHurt(0, 1, 0, 0), 1);
        // One hangs in its place up to hour 60.
        LateFalls z = Check.of("fall 2 2;thing 1 held 0;thing 9 up 1 1 for 60;walker 1;");
        Check.due("by the longest wait alone", z.waitHurt(0, 1, 1, 0), 60);
        LateFalls beyond = Check.of("fall 2 2;thing 1 held 0;thing 9 up 1 1 for 61;walker 1;");
        Check.due("a wait too long", beyond.waitHurt(0, 1, 1, 0), LateFalls.NONE);
    }

    /** Promise 32. */
    private static void place() {
        LateFalls x = some();
        Check.due("place(0, false)", x.place(0, false), 0);
        Check.due("place(0, true)", x.place(0, true), 12);
        Check.noSuch("place(5, true)", () -> x.place(5, true));
        Check.noSuch("place(-1, true)", () -> x.place(-1, true));
        Check.badState("place(3, false)", () -> x.place(3, false));
        LateFalls y = Check.of("fall 2 3;thing 5 held 2;hangs:5+column*level-2*level;");
        Check.due("soonest of 5 3 1 5 4 3", y.place(0, false), 2);
        Check.due("latest of these, the first", y.place(0, true), 0);
        LateFalls z = Check.of("fall 1 1;thing 5 held 2;thing 6 on 0;");
        Check.due("nowhere", z.place(0, false), LateFalls.NONE);
        Check.due("nowhere, late", z.place(0, true), LateFalls.NONE);
    }

    /** Promise 33. */
    private static void worst() {
        LateFalls x = some();
        Check.due("worst(0, 0)", x.worst(0, 0), 0);
        Check.due("worst(0, 1): with all that fall there", x.worst(0, 1), 11);
        Check.noSuch("worst(5, 2)", () -> x.worst(5, 2));
        Check.badState("worst(1, 2)", () -> x.worst(1, 2));
        Check.badArgument("worst(0, 2)", () -> x.worst(0, 2));
        Check.badArgument("worst(0, -1)", () -> x.worst(0, -1));
        LateFalls y = Check.of("fall 3 2;thing 5 held 1;thing 50 up 2 1 for 1;walker 0;walker 1;walker 1;walker 2;"
                + "frees:1=2;");
        Check.due("all who are there: 55 once", y.worst(0, 1), 55);
        y.take(1);
        Check.due("two walkers count twice", y.worst(0, 1), 10);
        Check.due("where they are", y.worst(0, 0), 10);
        LateFalls z = Check.of("fall 2 1;thing 5 held 1;thing 6 on 0;");
        Check.due("where none is hurt: the first place", z.worst(0, 0), 10);
        Check.due("by 0", z.worst(0, 1), 0);
        LateFalls n = Check.of("fall 1 1;thing 5 held 1;thing 6 up 0 0 for 1;walker 0;");
        Check.due("nowhere", n.worst(0, 0), LateFalls.NONE);
        Check.due("nowhere: by 0", n.worst(0, 1), 0);
        LateFalls once = Check.of("fall 1 3;thing 5 held 0;thing 6 up 0 0 for 9;walker 0;");
        Check.due("at once, with what it frees", once.worst(0, 1), 11);
    }

    /** Promise 34. */
    private static void both() {
        LateFalls x = Check.of("fall 2 3;thing 3 held 0;thing 4 held 0;thing 5 on 0;hangs:held+weight*2-level;");
        // The first falls in 2w + 5 hours on level 1, the second in 2w + 7.
        Check.due("both, in how many hours", x.both(0, 1, 0, 1, 1, 0), 7);
        Check.due("both, the first's wait", x.both(0, 1, 0, 1, 1, 1), 1);
        Check.due("both, the second's wait", x.both(0, 1, 0, 1, 1, 2), 0);
        Check.due("the other way round", x.both(1, 0, 1, 0, 1, 2), 1);
        Check.due("no place", x.both(0, 1, 0, 1, 0, 0), LateFalls.NONE);
        Check.due("no place, its wait", x.both(0, 1, 0, 1, 0, 2), LateFalls.NONE);
        Check.noSuch("both(3, 3, 0, 0, 0, 9)", () -> x.both(3, 3, 0, 0, 0, 9));
        Check.noSuch("both(0, 2, 2, 0, 0, 9)", () -> x.both(0, 2, 2, 0, 0, 9));
        Check.noSuch("both(0, 2, 0, -1, 0, 9)", () -> x.both(0, 2, 0, -1, 0, 9));
        Check.noSuch("both(0, 2, 0, 1, 3, 9)", () -> x.both(0, 2, 0, 1, 3, 9));
        Check.badState("both(0, 2, 0, 0, 0, 9)", () -> x.both(0, 2, 0, 0, 0, 9));
        Check.badState("both(2, 0, 0, 0, 0, 9)", () -> x.both(2, 0, 0, 0, 0, 9));
        Check.badArgument("both one", () -> x.both(0, 0, 0, 1, 1, 0));
        Check.badArgument("one column", () -> x.both(0, 1, 1, 1, 1, 0));
        Check.badArgument("both what 3", () -> x.both(0, 1, 0, 1, 1, 3));
        Check.badArgument("both what -1", () -> x.both(0, 1, 0, 1, 1, -1));
        LateFalls odd = Check.of("fall 2 1;thing 1 held 0;thing 2 held 1;");
        Check.due("even and odd hours never meet", odd.both(0, 1, 0, 1, 0, 0), LateFalls.NONE);
        LateFalls far = Check.of("fall 2 1;thing 1 held 0;thing 2 held 0;hangs:weight*weight*240-held*3;");
        // 240 - 2w and 960 - 2w, both even; w to 60: 120 to 240 and 840 to 960.
        Check.due("never at once", far.both(0, 1, 0, 1, 0, 0), LateFalls.NONE);
        LateFalls down = Check.of("fall 2 1;thing 1 held 0;thing 2 held 0;hangs:200+weight*20-held*3;");
        // 220 - 2w and 240 - 2w: the soonest is 120, by the waits 50 and 60.
        Check.due("the soonest, by long waits", down.both(0, 1, 0, 1, 0, 0), 120);
        Check.due("its first wait", down.both(0, 1, 0, 1, 0, 1), 50);
        Check.due("its second wait", down.both(0, 1, 0, 1, 0, 2), 60);
        Check.due("the other way round, its first wait", down.both(1, 0, 1, 0, 0, 1), 60);
        LateFalls least = Check.of("fall 2 4;thing 1 held 2;thing 2 held 9;thing 3 up 1 3 for 2;");
        // Thing 1 is set free in two hours, whether it is let go now or in an hour.
        Check.due("in two hours", least.both(0, 1, 0, 1, 1, 0), 2);
        Check.due("the second's least wait", least.both(0, 1, 0, 1, 1, 2), 0);
        Check.due("the first's least wait", least.both(1, 0, 1, 0, 1, 1), 0);
    }
}
