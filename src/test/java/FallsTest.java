/** Promises 18 to 27: falls to come. */
public final class FallsTest {
    /** In two hours 1 and 2 fall in column 0, in three 0 in column 2, in nine 4 on 3 in column 1. */
    private static LateFalls some() {
        return Check.of("fall 3 4;thing 5 up 2 1 for 3;thing 2 up 0 3 for 2;thing 4 up 0 1 for 6;thing 7 on 1;"
                + "thing 1 up 1 2 for 9;thing 8 held 0;walker 0 1;walker 2;hour 10;");
    }

    public static void main(String[] args) {
        falls();
        lands();
        fallIn();
        nextAndBusiest();
        frees();
        heightIn();
        hurt();
        spares();
        eightHours();
        Check.end();
    }

    /** As many hours with falls as there can be. */
    private static void eightHours() {
        LateFalls x = Check.of("fall 1 9;thing 1 up 0 0 for 1;thing 2 up 0 1 for 2;thing 3 up 0 2 for 3;"
                + "thing 4 up 0 3 for 4;thing 5 up 0 4 for 5;thing 6 up 0 5 for 6;thing 7 up 0 6 for 7;"
                + "thing 8 up 0 8 for 8;walker 0;");
        for (int t = 0; t < 8; t++) {
            Check.due("falls(" + t + ") of eight", x.falls(t), t + 1);
            Check.due("lands(" + t + ") of eight", x.lands(t), t);
            Check.due("fallIn(" + (t + 1) + ") of eight", x.fallIn(t + 1), 1 << t);
            Check.due("heightIn(0, " + t + ") of eight", x.heightIn(0, t), t);
        }
        Check.due("hurts(0) by eight", x.hurts(0), 36);
        Check.due("hurtIn(0) by eight", x.hurtIn(0), 1);
        Check.due("spares(0, 0) of eight", x.spares(0, 0), 36);
        Check.due("later(0, 8) by eight", x.later(0, 8), 36);
        Check.due("busiest() of eight", x.busiest(), 1);
        Check.due("shelter() from eight", x.shelter(), 0);
        Check.due("safeIn(0, 1) from eight", x.safeIn(0, 1), 0);
        Check.due("eight fall in eight hours", x.hours(8), 8);
    }

    /** Promise 18. */
    private static void falls() {
        LateFalls x = some();
        int[] due = {3, 2, 2, -1, 9, -1};
        for (int t = 0; t < 6; t++) {
            Check.due("falls(" + t + ")", x.falls(t), due[t]);
        }
        Check.noSuch("falls(6)", () -> x.falls(6));
        Check.noSuch("falls(-1)", () -> x.falls(-1));
        LateFalls y = Check.of("fall 1 2;thing 1 held 0;hangs:999;");
        y.letGo(0, 0, 1);
        Check.due("falls in 999 hours", y.falls(0), 999);
        LateFalls z = Check.of("fall 1 9;thing 1 up 0 8 for 20;thing 1 up 0 7 for 30;frees:hour=3;hour 7;");
        Check.due("set free in hour 27", z.falls(1), 20);
        z.hours(1);
        Check.due("an hour later", z.falls(1), 19);
    }

    /** Promise 19. */
    private static void lands() {
        LateFalls x = some();
        int[] due = {0, 1, 0, -1, 1, -1};
        for (int t = 0; t < 6; t++) {
            Check.due("lands(" + t + ")", x.lands(t), due[t]);
        }
        Check.noSuch("lands(6)", () -> x.lands(6));
        Check.noSuch("lands(-1)", () -> x.lands(-1));
        LateFalls y = Check.of("fall 1 4;thing 1 up 0 3 for 2;thing 2 up 0 2 for 1;frees:1=2;");
        Check.due("on what fell ahead of it", y.lands(0), 1);
    }

    /** Promise 20. */
    private static void fallIn() {
        LateFalls x = some();
        int[] due = {0, 0, 6, 1, 0, 0, 0, 0, 0, 16, 0};
        for (int n = 1; n <= 10; n++) {
            Check.due("fallIn(" + n + ")", x.fallIn(n), due[n]);
        }
        Check.due("fallIn(999)", x.fallIn(999), 0);
        Check.badArgument("fallIn(0)", () -> x.fallIn(0));
        Check.badArgument("fallIn(1000)", () -> x.fallIn(1000));
        LateFalls y = Check.of("fall 1 2;thing 1 held 0;hangs:999;");
        y.letGo(0, 0, 1);
        Check.due("fallIn(999) of one that falls then", y.fallIn(999), 1);
    }

    /** Promises 21 and 22. */
    private static void nextAndBusiest() {
        LateFalls x = some();
        Check.due("next()", x.next(), 2);
        Check.due("busiest()", x.busiest(), 2);
        x.hours(2);
        Check.due("next() then", x.next(), 1);
        Check.due("busiest() then, the first", x.busiest(), 1);
        x.quake();
        Check.due("next() of none", x.next(), LateFalls.NONE);
        Check.due("busiest() of none", x.busiest(), LateFalls.NONE);
        LateFalls y = Check.of("fall 3 2;thing 1 up 0 1 for 1;thing 1 up 1 1 for 5;thing 1 up 2 1 for 5;");
        Check.due("busiest() over columns", y.busiest(), 5);
        Check.due("next() of these", y.next(), 1);
    }

    /** Promise 23. */
    private static void frees() {
        LateFalls x = some();
        Check.due("frees(1)", x.frees(1), 4);
        Check.due("frees(2): none above", x.frees(2), 0);
        Check.due("frees(0)", x.frees(0), 0);
        Check.badState("frees(3): it lies", () -> x.frees(3));
        Check.badState("frees(5): it is held", () -> x.frees(5));
        Check.noSuch("frees(6)", () -> x.frees(6));
        Check.noSuch("frees(-1)", () -> x.frees(-1));
        LateFalls y = Check.of("fall 1 5;thing 1 up 0 4 for 9;thing 2 up 0 3 for 9;thing 3 up 0 0 for 9;"
                + "frees:hour=1 and wa<wb;hour 24;");
        Check.due("filled alone", y.frees(0), 4);
        y.hours(1);
        Check.due("freed in this hour", y.frees(0), 6);
        Check.due("nothing fell", y.count(5), 3);
    }

    /** Promise 24. */
    private static void heightIn() {
        LateFalls x = some();
        Check.due("heightIn(0, 0)", x.heightIn(0, 0), 0);
        Check.due("heightIn(0, 1)", x.heightIn(0, 1), 0);
        Check.due("heightIn(0, 2)", x.heightIn(0, 2), 2);
        Check.due("heightIn(1, 8)", x.heightIn(1, 8), 1);
        Check.due("heightIn(1, 999)", x.heightIn(1, 999), 2);
        Check.due("the hour stays", x.count(8), 10);
        Check.noSuch("heightIn(3, -1)", () -> x.heightIn(3, -1));
        Check.noSuch("heightIn(-1, 0)", () -> x.heightIn(-1, 0));
        Check.badArgument("heightIn(0, -1)", () -> x.heightIn(0, -1));
        Check.badArgument("heightIn(0, 1000)", () -> x.heightIn(0, 1000));
    }

    /** Promises 25 and 26. */
    private static void hurt() {
        LateFalls x = some();
        // Walker 0 is in column 0 in hour 12 and in column 1 in hour 19.
        Check.due("hurtIn(0)", x.hurtIn(0), 2);
        Check.due("hurts(0)", x.hurts(0), 7);
        Check.due("hurtIn(1)", x.hurtIn(1), 3);
        Check.due("hurts(1)", x.hurts(1), 5);
        x.hours(3);
        Check.due("hurtIn(0) then", x.hurtIn(0), 6);
        Check.due("hurts(0): only by what hangs", x.hurts(0), 1);
        Check.due("hurtIn(1): by nothing", x.hurtIn(1), LateFalls.NONE);
        Check.due("hurts(1): by nothing", x.hurts(1), 0);
        Check.noSuch("hurtIn(2)", () -> x.hurtIn(2));
        Check.noSuch("hurtIn(-1)", () -> x.hurtIn(-1));
        Check.noSuch("hurts(2)", () -> x.hurts(2));
        Check.noSuch("hurts(-1)", () -> x.hurts(-1));
    }

    /** Promise 27. */
    private static void spares() {
        LateFalls x = some();
        Check.due("spares(0, 0)", x.spares(0, 0), 6);
        Check.due("spares(0, 1)", x.spares(0, 1), 1);
        Check.due("spares(0, 2)", x.spares(0, 2), 0);
        Check.due("spares(1, 2)", x.spares(1, 2), 5);
        Check.due("nothing was taken", x.count(5), 4);
        Check.noSuch("spares(2, 0)", () -> x.spares(2, 0));
        Check.noSuch("spares(0, 3)", () -> x.spares(0, 3));
        Check.noSuch("spares(0, -1)", () -> x.spares(0, -1));
    }
}
