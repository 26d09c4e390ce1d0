/** Terms, 3, and promises 18 to 34: each sentence that names an edge of what is to come, on both sides of it. */
public final class ToComeEdgesTest {
    private static final int NONE = LateFalls.NONE;
    private static final int MAX = Integer.MAX_VALUE;
    private static final int MIN = Integer.MIN_VALUE;

    public static void main(String[] args) {
        itDoesntHang();
        bySelfOrSetFree();
        landsOnWhatFell();
        fallInOneTo999();
        nextOfNone();
        busiestTheFirst();
        freesNow();
        heightInNoneTo999();
        hurtByNothing();
        sparesAColumn();
        waitsUpTo60();
        placeFreeThen();
        waitForNoneTo999();
        leastWaits();
        waitSafeWhereItFalls();
        waitHurtInTheHour();
        placesSoonestAndLatest();
        letGoNow();
        fellAhead();
        nowhere();
        worstTheFirst();
        bothAsSoonAsCanBe();
        eightHoursOfFalls();
        nothingIsDone();
        Check.end();
    }

    /** A thing that hangs for so long, let go now by a law of just that. */
    private static LateFalls hung(int hours) {
        LateFalls x = Check.of("fall 2 4;thing 9 held 0;walker 0;hangs:" + hours + ";");
        x.letGo(0, 0, 3);
        return x;
    }

    /** "NONE: it doesn't HANG": held, lying, and just fallen. */
    private static void itDoesntHang() {
        LateFalls x = Check.of("fall 2 4;thing 9 held 5;thing 8 on 0;thing 7 up 1 3 for 1;");
        for (int t = 0; t < 2; t++) {
            Check.due("falls(" + t + ")", x.falls(t), NONE);
            Check.due("lands(" + t + ")", x.lands(t), NONE);
            int thing = t;
            Check.badState("frees(" + t + ")", () -> x.frees(thing));
        }
        Check.due("falls(2)", x.falls(2), 1);
        Check.due("lands(2)", x.lands(2), 0);
        Check.due("frees(2)", x.frees(2), 0);
        x.hours(1);
        Check.due("falls(2), fallen", x.falls(2), NONE);
        Check.due("lands(2), fallen", x.lands(2), NONE);
        Check.badState("frees(2), fallen", () -> x.frees(2));
        x.take(2);
        Check.due("falls(2), taken", x.falls(2), NONE);
        Check.due("lands(2), taken", x.lands(2), NONE);
        Check.badState("frees(2), taken", () -> x.frees(2));
    }

    /** "In how many HOURS a THING that HANGS falls (by itself, or set free)". */
    private static void bySelfOrSetFree() {
        LateFalls x = Check.of("fall 1 9;thing 5 up 0 8 for 4;thing 4 up 0 6 for 3;thing 3 up 0 5 for 5;thing 2 up 0 4 for 4;"
                + "frees:wa=5 and wb=3;");
        int[] due = {4, 3, 4, 4};
        for (int t = 0; t < 4; t++) {
            Check.due("falls(" + t + ")", x.falls(t), due[t]);
        }
        Check.due("in three hours", x.fallIn(3), 2);
        Check.due("in four hours", x.fallIn(4), 1 + 4 + 8);
        Check.due("in five hours", x.fallIn(5), 0);
        LateFalls filled = Check.of("fall 1 3;thing 5 up 0 2 for 1;thing 4 up 0 0 for 9;thing 3 up 0 1 for 9;frees:1=2;");
        Check.due("on a filled level", filled.falls(1), 1);
        Check.due("on the next one, filled then", filled.falls(2), 1);
        LateFalls still = Check.of("fall 1 3;thing 5 up 0 2 for 1;thing 3 up 0 1 for 9;frees:1=2;");
        Check.due("right above a filled one", still.falls(1), 9);
    }

    /** "The LEVEL on which it comes to LIE then". */
    private static void landsOnWhatFell() {
        LateFalls x = Check.of("fall 2 9;thing 1 on 0;thing 2 up 0 8 for 4;thing 3 up 0 6 for 3;thing 4 up 0 7 for 4;"
                + "thing 5 up 1 8 for 9;thing 6 up 0 3 for 5;frees:1=2;");
        int[] due = {NONE, 4, 1, 3, 0, 2};
        for (int t = 0; t < 6; t++) {
            Check.due("lands(" + t + ")", x.lands(t), due[t]);
        }
        Check.due("the one on level 3 would be filled in four hours", x.falls(5), 4);
    }

    /** "in the HOUR in n HOURS (1 to 999)". */
    private static void fallInOneTo999() {
        int[] wrong = {0, -1, 1000, MAX, MIN};
        LateFalls x = hung(1);
        for (int n : wrong) {
            Check.badArgument("fallIn(" + n + ")", () -> x.fallIn(n));
        }
        Check.due("fallIn(1)", x.fallIn(1), 1);
        Check.due("fallIn(2)", x.fallIn(2), 0);
        Check.due("fallIn(998) of 999", hung(999).fallIn(998), 0);
        Check.due("fallIn(999) of 999", hung(999).fallIn(999), 1);
        Check.due("fallIn(998) of 998", hung(998).fallIn(998), 1);
        Check.due("fallIn(999) of 998", hung(998).fallIn(999), 0);
        LateFalls all = Check.of("fall 6 9;" + eightUp() + "frees:1=1;");
        Check.due("all eight, as bits", all.fallIn(7), 255);
    }

    private static String eightUp() {
        StringBuilder text = new StringBuilder();
        for (int t = 0; t < 8; t++) {
            text.append("thing 1 up ").append(t % 6).append(" ").append(8 - t / 6).append(" for 7;");
        }
        return text.toString();
    }

    /** "NONE: nothing HANGS". */
    private static void nextOfNone() {
        LateFalls x = Check.of("fall 2 4;thing 9 held 5;thing 8 on 0;");
        Check.due("next(), held and lying", x.next(), NONE);
        Check.due("busiest(), held and lying", x.busiest(), NONE);
        Check.due("next() of 999", hung(999).next(), 999);
        Check.due("busiest() of 999", hung(999).busiest(), 999);
        LateFalls y = Check.of("fall 2 4;thing 8 up 0 3 for 3;thing 7 up 1 3 for 2;");
        Check.due("next()", y.next(), 2);
        y.hours(1);
        Check.due("next(), an hour later", y.next(), 1);
        y.hours(1);
        Check.due("next(), behind a fall", y.next(), 1);
        y.hours(1);
        Check.due("next() of none", y.next(), NONE);
    }

    /** "The HOUR to come in which most fall, the first". */
    private static void busiestTheFirst() {
        String two = "fall 6 9;thing 1 up 0 8 for 5;thing 1 up 1 8 for 5;";
        Check.due("two", Check.of(two).busiest(), 5);
        Check.due("two and one ahead", Check.of(two + "thing 1 up 2 8 for 4;").busiest(), 5);
        Check.due("two and two ahead", Check.of(two + "thing 1 up 2 8 for 4;thing 1 up 3 8 for 4;").busiest(), 4);
        Check.due("two and two later", Check.of(two + "thing 1 up 2 8 for 6;thing 1 up 3 8 for 6;").busiest(), 5);
        Check.due("two and three later", Check.of(two + "thing 1 up 2 8 for 6;thing 1 up 3 8 for 6;thing 1 up 4 8 for 6;")
                .busiest(), 6);
        Check.due("by number, not by weight", Check.of(two + "thing 99 up 2 8 for 4;").busiest(), 5);
        Check.due("those set free count", Check.of(two + "thing 1 up 2 8 for 9;thing 1 up 2 7 for 20;thing 1 up 2 6 for 30;")
                .busiest(), 9);
    }

    /** "THINGS that would fall with it, if one that HANGS fell now, it itself aside, as bits." */
    private static void freesNow() {
        LateFalls x = Check.of("fall 1 9;thing 5 up 0 8 for 4;thing 4 up 0 6 for 3;thing 3 up 0 5 for 5;thing 2 up 0 1 for 4;"
                + "frees:wa=wb+1;");
        Check.due("frees(0): 1, 2, and so 3", x.frees(0), 2 + 4 + 8);
        Check.due("frees(1)", x.frees(1), 4 + 8);
        Check.due("frees(2)", x.frees(2), 8);
        Check.due("frees(3), the lowest", x.frees(3), 0);
        Check.due("the hour stays", x.count(8), 0);
        Check.due("all hang", x.count(5), 4);
    }

    /** "in n HOURS (0 to 999)". */
    private static void heightInNoneTo999() {
        int[] wrong = {-1, 1000, MAX, MIN};
        LateFalls x = hung(999);
        for (int n : wrong) {
            Check.badArgument("heightIn(0, " + n + ")", () -> x.heightIn(0, n));
        }
        Check.due("heightIn(0, 0)", x.heightIn(0, 0), 0);
        Check.due("heightIn(0, 998)", x.heightIn(0, 998), 0);
        Check.due("heightIn(0, 999)", x.heightIn(0, 999), 1);
        Check.due("heightIn(1, 999)", x.heightIn(1, 999), 0);
        LateFalls y = Check.of("fall 1 9;thing 1 on 0;thing 2 up 0 8 for 1;thing 3 up 0 7 for 2;frees:1=2;");
        int[] due = {1, 2, 3, 3};
        for (int n = 0; n < 4; n++) {
            Check.due("heightIn(0, " + n + ")", y.heightIn(0, n), due[n]);
        }
    }

    /** "In how many HOURS a WALKER is HURT next; NONE: by nothing that HANGS." */
    private static void hurtByNothing() {
        LateFalls x = Check.of("fall 2 4;thing 9 up 0 3 for 1;thing 8 up 0 2 for 2;thing 7 up 1 3 for 2;walker 1 0;walker 0 1;"
                + "walker 1 1 0;frees:1=2;");
        // In hour 1 they are in 0, 1, 1; in hour 2 in 1, 0, 0.
        int[] next = {1, 2, 2};
        int[] all = {16, 8, 8};
        for (int w = 0; w < 3; w++) {
            Check.due("hurtIn(" + w + ")", x.hurtIn(w), next[w]);
            Check.due("hurts(" + w + ")", x.hurts(w), all[w]);
        }
        x.hours(2);
        for (int w = 0; w < 3; w++) {
            Check.due("hurtIn(" + w + ") of none", x.hurtIn(w), NONE);
            Check.due("hurts(" + w + ") of none", x.hurts(w), 0);
            Check.due("as was told", x.walker(w, 1), all[w]);
        }
        LateFalls y = Check.of("fall 2 4;thing 9 up 0 3 for 2;walker 1;");
        Check.due("hurtIn(0), never there", y.hurtIn(0), NONE);
        Check.due("hurts(0), never there", y.hurts(0), 0);
        Check.due("hurtIn(0) in 999 hours", hung(999).hurtIn(0), 999);
    }

    /** "By how much less, if what HANGS in a COLUMN were TAKEN now (all of it)." */
    private static void sparesAColumn() {
        LateFalls x = Check.of("fall 3 4;thing 9 up 0 3 for 1;thing 8 up 0 2 for 2;thing 7 up 1 3 for 3;walker 0 0 0 1;"
                + "frees:1=2;");
        Check.due("hurts(0)", x.hurts(0), 24);
        Check.due("spares(0, 0): both of them", x.spares(0, 0), 17);
        Check.due("spares(0, 1)", x.spares(0, 1), 7);
        Check.due("spares(0, 2): nothing hangs there", x.spares(0, 2), 0);
        for (int c = 0; c < 3; c++) {
            LateFalls y = Check.of("fall 3 4;thing 9 up 0 3 for 1;thing 8 up 0 2 for 2;thing 7 up 1 3 for 3;walker 0 0 0 1;"
                    + "frees:1=2;");
            for (int t = 0; t < 3; t++) {
                if (y.thing(t, 2) == c) {
                    y.take(t);
                }
            }
            Check.due("by as much as if taken, " + c, x.hurts(0) - y.hurts(0), x.spares(0, c));
        }
    }

    /** "WAIT w (0 to 60)". */
    private static void waitsUpTo60() {
        LateFalls x = Check.of("fall 2 4;thing 9 held 3;");
        int[] wrong = {-1, 61, MAX, MIN};
        for (int w : wrong) {
            Check.badArgument("fallsBy(0, 0, 0, " + w + ")", () -> x.fallsBy(0, 0, 0, w));
        }
        Check.due("fallsBy(0, 0, 0, 0)", x.fallsBy(0, 0, 0, 0), 3);
        Check.due("fallsBy(0, 0, 0, 1)", x.fallsBy(0, 0, 0, 1), 5);
        Check.due("fallsBy(0, 0, 0, 59)", x.fallsBy(0, 0, 0, 59), 121);
        Check.due("fallsBy(0, 0, 0, 60)", x.fallsBy(0, 0, 0, 60), 123);
        Check.due("waitFor 123: by 60", x.waitFor(0, 0, 0, 123), 60);
        Check.due("waitFor 125: by 61", x.waitFor(0, 0, 0, 125), NONE);
        LateFalls soon = Check.of("fall 2 4;thing 9 held 0;hangs:0;");
        Check.due("at once after a wait", soon.fallsBy(0, 1, 3, 60), 60);
        Check.due("at once", soon.fallsBy(0, 1, 3, 0), 0);
        LateFalls late = Check.of("fall 2 4;thing 9 held 0;hangs:999;");
        Check.due("999 hours after a wait", late.fallsBy(0, 1, 3, 60), 1059);
    }

    /** "It can't, if its place isn't free then." */
    private static void placeFreeThen() {
        // On level 2 one hangs for three hours, then it lies on the floor.
        LateFalls x = Check.of("fall 1 4;thing 9 held 5;thing 8 up 0 2 for 3;");
        int[] level0 = {3, 3, 3, NONE, NONE};
        int[] level1 = {3, 3, 3, 11, 13};
        int[] level2 = {NONE, NONE, NONE, 11, 13};
        int[] level3 = {5, 7, 9, 11, 13};
        for (int w = 0; w < 5; w++) {
            Check.due("fallsBy(0, 0, 0, " + w + ")", x.fallsBy(0, 0, 0, w), level0[w]);
            Check.due("fallsBy(0, 0, 1, " + w + ")", x.fallsBy(0, 0, 1, w), level1[w]);
            Check.due("fallsBy(0, 0, 2, " + w + ")", x.fallsBy(0, 0, 2, w), level2[w]);
            Check.due("fallsBy(0, 0, 3, " + w + ")", x.fallsBy(0, 0, 3, w), level3[w]);
        }
    }

    /** "falls in just n HOURS (0 to 999); NONE: by none". */
    private static void waitForNoneTo999() {
        LateFalls x = Check.of("fall 2 4;thing 9 held 0;hangs:999-level;");
        int[] wrong = {-1, 1000, MAX, MIN};
        for (int n : wrong) {
            Check.badArgument("waitFor(0, 0, 0, " + n + ")", () -> x.waitFor(0, 0, 0, n));
        }
        Check.due("waitFor(0, 0, 0, 999)", x.waitFor(0, 0, 0, 999), 0);
        Check.due("waitFor(0, 0, 0, 998)", x.waitFor(0, 0, 0, 998), NONE);
        Check.due("waitFor(0, 0, 3, 999)", x.waitFor(0, 0, 3, 999), 3);
        Check.due("waitFor(0, 0, 3, 995)", x.waitFor(0, 0, 3, 995), NONE);
        Check.due("waitFor(0, 0, 3, 996)", x.waitFor(0, 0, 3, 996), 0);
        Check.due("waitFor(0, 0, 3, 0)", x.waitFor(0, 0, 3, 0), NONE);
        LateFalls soon = Check.of("fall 2 4;thing 9 held 0;hangs:0;");
        Check.due("waitFor 0", soon.waitFor(0, 0, 0, 0), 0);
        Check.due("waitFor 60", soon.waitFor(0, 0, 0, 60), 60);
        Check.due("waitFor 61", soon.waitFor(0, 0, 0, 61), NONE);
    }

    /** "The least WAIT". */
    private static void leastWaits() {
        // Let go after 0 to 4 hours it is set free in five; after 5, in the hour of that fall, it hangs by itself.
        LateFalls x = Check.of("fall 2 9;thing 9 held 50;thing 8 up 0 8 for 5;walker 1 1 1 1 1 0;");
        Check.due("waitFor(0, 0, 4, 5)", x.waitFor(0, 0, 4, 5), 0);
        Check.due("waitHurt(0, 0, 4, 0)", x.waitHurt(0, 0, 4, 0), 0);
        Check.due("waitFor(0, 0, 4, 60)", x.waitFor(0, 0, 4, 60), 5);
        // In hours 60 and 62 the walker is in columns 1 and 1: 60 modulo 6 is 0.
        Check.due("waitSafe(0, 0, 4)", x.waitSafe(0, 0, 4), 5);
        // By a law that shortens it two waits lead to one hour: 12 - 2w of 0 to 5, then 0.
        LateFalls y = Check.of("fall 2 9;thing 9 held 0;hangs:12-2*held;");
        Check.due("waitFor 12", y.waitFor(0, 0, 0, 12), 0);
        Check.due("waitFor 7: by 5, and by 7", y.waitFor(0, 0, 0, 7), 5);
        Check.due("waitFor 6: by 6", y.waitFor(0, 0, 0, 6), 6);
        Check.due("waitFor 5", y.waitFor(0, 0, 0, 5), NONE);
    }

    /** "by which nobody is HURT in the HOUR it falls, where it does; NONE: by none". */
    private static void waitSafeWhereItFalls() {
        LateFalls x = Check.of("fall 2 4;thing 9 held 0;hangs:0;walker 0 0 0 1;walker 1 0;");
        // Column 0 is empty in hours 3 and 0, modulo 4 and 2: never; column 1 in hours 1 modulo 4.
        Check.due("waitSafe(0, 0, 0)", x.waitSafe(0, 0, 0), NONE);
        Check.due("waitSafe(0, 1, 0)", x.waitSafe(0, 1, 0), 1);
        LateFalls none = Check.of("fall 2 4;thing 9 held 0;hangs:7;");
        Check.due("nobody there at all", none.waitSafe(0, 0, 0), 0);
        LateFalls filled = Check.of("fall 2 1;thing 9 held 0;thing 8 on 0;");
        Check.due("no place", filled.waitSafe(0, 0, 0), NONE);
        Check.due("the other column", filled.waitSafe(0, 1, 0), 0);
        LateFalls elsewhere = Check.of("fall 2 4;thing 9 held 3;thing 8 up 1 3 for 3;walker 1;");
        Check.due("who is hurt elsewhere in that hour", elsewhere.waitSafe(0, 0, 0), 0);
    }

    /** "by which a WALKER is HURT in the HOUR it falls; NONE: by none". */
    private static void waitHurtInTheHour() {
        LateFalls x = Check.of("fall 3 4;thing 9 held 0;hangs:0;walker 0 0 0 1;walker 1 0;");
        Check.due("waitHurt(0, 0, 0, 0)", x.waitHurt(0, 0, 0, 0), 0);
        Check.due("waitHurt(0, 1, 0, 0)", x.waitHurt(0, 1, 0, 0), 3);
        Check.due("waitHurt(0, 0, 0, 1)", x.waitHurt(0, 0, 0, 1), 1);
        Check.due("waitHurt(0, 1, 0, 1)", x.waitHurt(0, 1, 0, 1), 0);
        Check.due("waitHurt(0, 2, 0, 0)", x.waitHurt(0, 2, 0, 0), NONE);
        LateFalls filled = Check.of("fall 2 1;thing 9 held 0;thing 8 on 0;walker 0;");
        Check.due("no place", filled.waitHurt(0, 0, 0, 0), NONE);
    }

    /** "falls soonest (latest, if late), the first". */
    private static void placesSoonestAndLatest() {
        LateFalls x = Check.of("fall 6 9;thing 9 held 3;hangs:10+column*level;");
        Check.due("soonest of many, the first", x.place(0, false), 0);
        Check.due("latest, the last place", x.place(0, true), 58);
        LateFalls same = Check.of("fall 6 9;thing 9 held 3;hangs:10;");
        Check.due("soonest of all alike", same.place(0, false), 0);
        Check.due("latest of all alike", same.place(0, true), 0);
        LateFalls back = Check.of("fall 6 9;thing 9 held 3;hangs:100-column*level;");
        Check.due("soonest, the last place", back.place(0, false), 58);
        Check.due("latest of many, the first", back.place(0, true), 0);
        LateFalls full = Check.of("fall 2 2;thing 9 held 3;thing 1 on 0;thing 2 up 0 1 for 2;thing 3 on 1;");
        Check.due("the one place that is free", full.place(0, false), 11);
        Check.due("the one place that is free, late", full.place(0, true), 11);
        LateFalls once = Check.of("fall 2 2;thing 9 held 3;hangs:column;");
        Check.due("at once", once.place(0, false), 0);
        Check.due("in an hour", once.place(0, true), 10);
        LateFalls freed = Check.of("fall 2 4;thing 9 held 5;thing 8 up 1 2 for 3;");
        Check.due("soonest: set free below that one", freed.place(0, false), 10);
        Check.due("latest: by itself", freed.place(0, true), 0);
    }

    /** "LET GO now": not where a place is free a little later, nor by an hour to come. */
    private static void letGoNow() {
        LateFalls x = Check.of("fall 1 4;thing 9 held 5;thing 8 up 0 3 for 1;");
        Check.due("soonest: set free in an hour, by the first place", x.place(0, false), 0);
        Check.due("latest, too: nothing is above them", x.place(0, true), 0);
        LateFalls shut = Check.of("fall 1 1;thing 9 held 5;thing 8 up 0 0 for 1;");
        Check.due("where one hangs up to the next hour", shut.place(0, false), NONE);
        Check.due("the same, worst", shut.worst(0, 0), NONE);
        LateFalls hour = Check.of("fall 2 1;thing 9 held 5;hangs:10+column*hour-column*23;hour 23;walker 0 1;");
        // 10 in both columns by hour 23; by hour 24 it were 10 and 0.
        Check.due("by the law's hour now", hour.place(0, false), 0);
        Check.due("in hour 33 the walker is in column 1", hour.worst(0, 0), 10);
    }

    /** "all that fall there then": what fell ahead of that doesn't count. */
    private static void fellAhead() {
        LateFalls x = Check.of("fall 1 9;thing 9 held 0;thing 8 up 0 3 for 1;thing 7 held 1;walker 0;");
        x.quake();
        Check.due("at once, behind a quake", x.worst(0, 1), 9);
        Check.due("in an hour, behind a quake", x.worst(2, 1), 7);
        x.undo(1);
        x.hours(1);
        Check.due("in an hour, behind a fall", x.worst(0, 1), 9);
        x.take(1);
        Check.due("at once, behind a fall", x.worst(1, 1), 8);
    }

    /** "NONE: it can be nowhere". */
    private static void nowhere() {
        LateFalls full = Check.of("fall 2 2;thing 9 held 3;thing 1 on 0;thing 2 up 0 1 for 2;thing 3 on 1;thing 4 on 1;walker 0;");
        Check.due("place(0, false)", full.place(0, false), NONE);
        Check.due("place(0, true)", full.place(0, true), NONE);
        Check.due("worst(0, 0)", full.worst(0, 0), NONE);
        Check.due("worst(0, 1)", full.worst(0, 1), 0);
        full.take(4);
        Check.due("place(0, false), a place is free", full.place(0, false), 11);
        Check.due("worst(0, 0), a place is free", full.worst(0, 0), 11);
        Check.due("worst(0, 1), where nobody is", full.worst(0, 1), 0);
    }

    /** "HURTS most in the HOUR it falls (all that fall there then), the first". */
    private static void worstTheFirst() {
        LateFalls none = Check.of("fall 6 9;thing 9 held 3;");
        Check.due("nobody: the first place", none.worst(0, 0), 0);
        Check.due("nobody: by 0", none.worst(0, 1), 0);
        LateFalls last = Check.of("fall 6 9;thing 9 held 3;walker 5;hangs:level;");
        Check.due("in the last column, the first level", last.worst(0, 0), 50);
        Check.due("by its weight", last.worst(0, 1), 9);
        LateFalls only = Check.of("fall 6 9;thing 9 held 3;walker 5 5 5 5 5 5 5 0;hangs:level;");
        Check.due("by level 7 in the first column", only.worst(0, 0), 7);
        Check.due("by its weight there", only.worst(0, 1), 9);
        LateFalls more = Check.of("fall 2 9;thing 9 held 3;thing 5 up 1 7 for 3;thing 4 up 1 3 for 20;walker 0;walker 1;frees:1=2;");
        // In column 1 the other one falls in the same hour, on the floor that none fills.
        Check.due("with one that falls then", more.worst(0, 0), 10);
        Check.due("by both", more.worst(0, 1), 14);
        LateFalls every = Check.of("fall 2 9;thing 9 held 3;walker 1;walker 1;walker 0;walker 1;");
        Check.due("where three are", every.worst(0, 0), 10);
        Check.due("three times its weight", every.worst(0, 1), 27);
        Check.badArgument("worst(0, 2)", () -> every.worst(0, 2));
        Check.badArgument("worst(0, -1)", () -> every.worst(0, -1));
    }

    private static void dueBoth(LateFalls x, int hours, int first, int second) {
        Check.due("both, in how many hours", x.both(0, 1, 0, 1, 3, 0), hours);
        Check.due("both, the first wait", x.both(0, 1, 0, 1, 3, 1), first);
        Check.due("both, the second wait", x.both(0, 1, 0, 1, 3, 2), second);
        Check.due("turned, in how many hours", x.both(1, 0, 1, 0, 3, 0), hours);
        Check.due("turned, the first wait", x.both(1, 0, 1, 0, 3, 1), second);
        Check.due("turned, the second wait", x.both(1, 0, 1, 0, 3, 2), first);
    }

    /** "so that both fall in one HOUR, as soon as can be"; "(each the least for that HOUR); NONE: by none". */
    private static void bothAsSoonAsCanBe() {
        dueBoth(Check.of("fall 2 4;thing 9 held 0;thing 8 held 0;"), 0, 0, 0);
        dueBoth(Check.of("fall 2 4;thing 9 held 4;thing 8 held 0;"), 4, 0, 2);
        dueBoth(Check.of("fall 2 4;thing 9 held 4;thing 8 held 3;"), NONE, NONE, NONE);
        dueBoth(Check.of("fall 2 4;thing 9 held 0;thing 8 held 0;hangs:column*60;"), 60, 60, 0);
        dueBoth(Check.of("fall 2 4;thing 9 held 0;thing 8 held 0;hangs:column*61;"), NONE, NONE, NONE);
        // 24 - 2w at first, then 0: an hour by two waits each, the least of them counts.
        dueBoth(Check.of("fall 2 4;thing 9 held 0;thing 8 held 0;hangs:24-2*held;"), 12, 12, 12);
        dueBoth(Check.of("fall 2 4;thing 9 held 0;thing 8 held 0;hangs:24+column-2*held;"), 13, 11, 12);
        dueBoth(Check.of("fall 2 4;thing 9 held 3;thing 8 held 3;thing 7 on 0;thing 7 on 0;thing 7 on 0;thing 7 on 0;"),
                NONE, NONE, NONE);
        LateFalls x = Check.of("fall 2 4;thing 9 held 0;thing 8 held 0;");
        Check.badArgument("both one thing", () -> x.both(0, 0, 0, 1, 3, 0));
        Check.badArgument("one column", () -> x.both(0, 1, 1, 1, 3, 0));
        Check.badArgument("what 3", () -> x.both(0, 1, 0, 1, 3, 3));
        Check.badArgument("what -1", () -> x.both(0, 1, 0, 1, 3, -1));
    }

    /** "8 at most": as many falls in hours of their own as there can be. */
    private static void eightHoursOfFalls() {
        StringBuilder up = new StringBuilder("fall 3 9;frees:1=2;");
        for (int t = 0; t < 7; t++) {
            up.append("thing ").append(t + 1).append(" up 0 ").append(t).append(" for ").append(t + 1).append(";");
        }
        LateFalls x = Check.of(up + "thing 9 up 1 8 for 8;walker 2;walker 1;walker 0;");
        Check.due("hurtIn(0), by none of eight", x.hurtIn(0), NONE);
        Check.due("hurts(0), by none of eight", x.hurts(0), 0);
        Check.due("hurtIn(1), by the last of eight", x.hurtIn(1), 8);
        Check.due("hurts(2), by seven", x.hurts(2), 28);
        Check.due("heightIn(1, 8)", x.heightIn(1, 8), 1);
        LateFalls held = Check.of(up + "thing 9 held 8;walker 1;");
        Check.due("fallsBy, behind seven others", held.fallsBy(7, 1, 8, 0), 8);
        Check.due("fallsBy, seven fall ahead of that", held.fallsBy(7, 1, 8, 7), 22);
        Check.due("waitFor, behind seven others", held.waitFor(7, 1, 8, 8), 0);
        Check.due("worst, behind seven others", held.worst(7, 0), 10);
        Check.due("waitHurt, behind seven others", held.waitHurt(7, 1, 8, 0), 0);
        Check.due("above them", held.fallsBy(7, 0, 8, 0), 8);
        Check.due("letGo", held.letGo(7, 1, 8), 8);
        Check.due("lands", held.lands(7), 0);
        Check.due("eight fall", held.hours(8), 8);
    }

    /** "nothing else being done but what is told": asking does nothing. */
    private static void nothingIsDone() {
        String text = "fall 2 4;thing 9 held 0;thing 8 held 2;thing 7 up 0 3 for 2;thing 6 up 1 2 for 5;thing 5 on 1;walker 0 1;hour 3;";
        LateFalls x = Check.of(text);
        LateFalls y = Check.of(text);
        x.hours(1);
        y.hours(1);
        x.falls(2);
        x.lands(2);
        x.fallIn(1);
        x.next();
        x.busiest();
        x.frees(2);
        x.heightIn(0, 999);
        x.hurtIn(0);
        x.hurts(0);
        x.spares(0, 0);
        x.fallsBy(0, 0, 1, 60);
        x.waitFor(0, 0, 1, 60);
        x.waitSafe(0, 0, 1);
        x.waitHurt(0, 0, 1, 0);
        x.place(0, true);
        x.worst(0, 1);
        x.both(0, 1, 0, 1, 1, 0);
        x.hanging(0, 0, 0, 999);
        x.safeWay(0, 1, 10);
        x.safeWays(0, 1, 20);
        x.safeIn(0, 60);
        x.shelter();
        x.later(0, 8);
        x.letGoBy(0, 0, 1);
        x.letGoAt(0, 0, 1, 1);
        x.levels(0, 1, 0, 0);
        for (int what = 0; what < 12; what++) {
            Check.due("count(" + what + ") as before", x.count(what), y.count(what));
        }
        for (int t = 0; t < 5; t++) {
            for (int what = 0; what < 6; what++) {
                Check.due("thing(" + t + ", " + what + ") as before", x.thing(t, what), y.thing(t, what));
            }
        }
        Check.due("hours(1)", x.hours(1), y.hours(1));
        Check.due("hurt by that", x.count(11), y.count(11));
        Check.due("undo(2)", x.undo(2), y.undo(2));
        Check.due("the hour", x.count(8), 3);
    }
}
