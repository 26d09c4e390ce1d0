/** Promises 2 to 9: the text of the district, and what stands there. */
public final class DistrictTest {
    public static void main(String[] args) {
        feed();
        district();
        tokens();
        faultsOfLines();
        faultsOfLaws();
        faultsOfMany();
        theFirstFault();
        fault();
        thing();
        walker();
        places();
        hanging();
        laws();
        Check.end();
    }

    /** Promise 2. */
    private static void feed() {
        LateFalls x = new LateFalls();
        for (int i = 1; i <= 45; i++) {
            Check.due("feed " + i, x.feed(0, -1, 1, Integer.MIN_VALUE, 7), 20L * i);
        }
        Check.due("feed beyond 900", x.feed(0, 0, 0, 0, 0), LateFalls.NONE);
        Check.due("count(10) of a full tape", x.count(10), 900);
        Check.due("district of its zeros", x.district(900), -11);
        Check.due("count(10) of the tape then", x.count(10), 0);
        // The highest byte of each int first: "fall" " 2 3" ";" and blanks.
        x.feed(0x66616C6C, 0x20322033, 0x3B202020, 0x20202020, 0x20202020);
        Check.due("district of bytes", x.district(20), 1);
        Check.due("its columns", x.count(1), 2);
        Check.due("its levels", x.count(2), 3);
    }

    /** Promise 3. */
    private static void district() {
        LateFalls x = Check.of("fall 2 3;thing 5 held 1;hour 7;hour 8;frees:1=1;hangs:2;");
        Check.due("lines", x.count(0), 6);
        Check.due("the later hour strikes", x.count(8), 8);
        x.quake();
        Check.feed(x, "fall 1 1;");
        Check.badArgument("district(-1)", () -> x.district(-1));
        Check.badArgument("district(21)", () -> x.district(21));
        Check.due("the tape stays at a throw", x.count(10), 20);
        Check.due("district(8), without its ;", x.district(8), -12);
        Check.due("the tape is empty at a fault", x.count(10), 0);
        Check.due("all stays at a fault", x.count(0), 6);
        Check.due("deeds stay at a fault", x.count(9), 1);
        Check.feed(x, "fall 3 9; and what comes behind is left out");
        Check.due("district(9)", x.district(9), 1);
        Check.due("the tape is empty then", x.count(10), 0);
        Check.due("no deeds then", x.count(9), 0);
        Check.due("the hour of a text without one", x.count(8), 0);
        Check.due("no things then", x.count(3), 0);
        Check.badArgument("district(1) of an empty tape", () -> x.district(1));
        Check.due("district(0)", x.district(0), -12);
        StringBuilder longest = new StringBuilder("fall 1 1;");
        while (longest.length() < 900) {
            longest.append(longest.length() + 7 <= 900 ? "hour 1;" : " ");
        }
        Check.due("a text of 900 bytes", Check.tell(x, longest.toString()), 1 + 891 / 7);
    }

    private static void tokens() {
        LateFalls x = Check.of("fall2\n3;thing007held 09;walker0 1\n1;");
        Check.due("tokens without blanks", x.thing(0, 0), 7);
        Check.due("zeros ahead", x.thing(0, 4), 9);
        Check.due("three columns told", x.walker(0, 2), 3);
        Check.dueFault("fall 1\t1;", 1, 6);
        Check.dueFault("fall 1 1;\r", 1, 9);
        Check.dueFault("Fall 1 1;", 1, 0);
        Check.dueFault("fall 0001 1;", 1, 5);
        Check.dueFault("fall 1 1;hour 12345;", 1, 14);
        Check.dueFault("fall 1 1;" + (char) 228, 1, 9);
        Check.dueFault("fall 1 1;" + (char) 0, 1, 9);
        Check.dueFault("falls 1 1;", 2, 0);
        Check.dueFault("fall 1 1;things 1 held 0;", 2, 9);
        Check.dueFault("fall 1 1;frees:1/2=1;", 1, 16);
    }

    private static void faultsOfLines() {
        Check.dueFault(" ", 2, 1);
        Check.dueFault("fall 1 1  ", 2, 10);
        Check.dueFault("fall 1 1;;", 2, 9);
        Check.dueFault("hour 1;fall 1 1;", 2, 0);
        Check.dueFault("fall 1 1;hour 1;fall 1 1;", 2, 16);
        Check.dueFault("fall 1;", 2, 6);
        Check.dueFault("fall 7 1;", 3, 5);
        Check.dueFault("fall 6 0;", 3, 7);
        Check.dueFault("fall 1 10;", 3, 7);
        Check.dueFault("fall 1 2;thing 100 held 0;", 3, 15);
        Check.dueFault("fall 1 2;thing 9 holds 0;", 2, 17);
        Check.dueFault("fall 1 2;thing 9 held;", 2, 21);
        Check.dueFault("fall 1 2;thing 9 up 0 0 on 1;", 2, 24);
        Check.dueFault("fall 1 2;thing 9 up 0 0 for 100;", 3, 28);
        Check.dueFault("fall 1 2;thing 9 held 0 0;", 2, 24);
        Check.dueFault("fall 2 2;thing 1 up 1 1 for 1;thing 2 up 1 1 for 1;", 3, 43);
        Check.dueFault("fall 2 2;thing 1 on 1;thing 2 up 1 0 for 1;", 3, 35);
        Check.dueFault("fall 2 2;thing 1 on 1;thing 2 up 1 1 for 1;thing 3 on 1;", 3, 54);
        Check.dueFault("fall 2 1;thing 1 on 1;thing 2 on 0;thing 3 on 1;", 3, 46);
        Check.dueFault("fall 2 2;walker 0 1 2;", 3, 20);
        Check.dueFault("fall 2 2;walker 0 1 0 1 0 1 0 1 9;", 2, 32);
        Check.dueFault("fall 2 2;hour;", 2, 13);
        Check.dueFault("fall 2 2;hour 1 2;", 2, 16);
        LateFalls x = Check.of("fall 1 3;thing 1 up 0 1 for 1;thing 2 on 0;walker 0 0 0 0 0 0 0 0;hour 999;");
        Check.due("one lies below one that hangs", x.at(0, 0), 1);
        Check.due("eight columns of a walker", x.walker(0, 2), 8);
        Check.due("hour 999", x.count(8), 999);
    }

    private static void faultsOfLaws() {
        String f = "fall 1 2;";
        Check.dueFault(f + "hangs held;", 2, 15);
        Check.dueFault(f + "hangs:;", 2, 15);
        Check.dueFault(f + "hangs:-1;", 2, 15);
        Check.dueFault(f + "hangs:held+;", 2, 20);
        Check.dueFault(f + "hangs:held=1;", 2, 19);
        Check.dueFault(f + "hangs:[1];", 2, 15);
        Check.dueFault(f + "hangs:not 1;", 2, 15);
        Check.dueFault(f + "hangs:(1;", 2, 17);
        Check.dueFault(f + "hangs:1);", 2, 16);
        Check.dueFault(f + "hangs:lb;", 2, 15);
        Check.dueFault(f + "hangs:1 1;", 2, 17);
        Check.dueFault(f + "frees:1=1=1;", 2, 18);
        Check.dueFault(f + "frees:[1=1;", 2, 19);
        Check.dueFault(f + "frees:[1]=1;", 2, 17);
        Check.dueFault(f + "frees:(1=1);", 2, 17);
        Check.dueFault(f + "frees:1=not 1;", 2, 17);
        Check.dueFault(f + "frees:wa=lying;", 2, 18);
        Check.dueFault(f + "frees:1=1 and;", 2, 22);
        Check.dueFault(f + "frees:or 1=1;", 2, 15);
        Check.due("hour stands in both laws",
                Check.tell(new LateFalls(), f + "hangs:hour+lying*column;frees:hour=la and wb<lb;"), 3);
    }

    private static void faultsOfMany() {
        String f = "fall 1 2;";
        Check.dueFault(f + "hangs:(((((((1)))))));", 4, 21);
        Check.dueFault(f + "frees:not[not[not[not 1=1]]];", 4, 27);
        Check.dueFault(f + "frees:[[[[[[[1=1]]]]]]];", 4, 21);
        Check.dueFault(f + "frees:[not[not[(((1)))=1]]];", 4, 25);
        Check.dueFault(f + "hangs:((((((not 1))))));", 2, 21);
        Check.due("six deep, again and again", Check.tell(new LateFalls(),
                f + "frees:not[not[not(1)=(1)]]and[[[[[[1=1]]]]]]or not not not not not not 1=1;hangs:((((((1))))))*(1);"),
                3);
        StringBuilder things = new StringBuilder("fall 1 9;");
        for (int i = 0; i < 8; i++) {
            things.append("thing 1 on 0;");
        }
        LateFalls x = Check.of(things.toString());
        Check.due("eight things", x.count(3), 8);
        Check.dueFault(things + "thing 0", 4, things.length());
        String walkers = "fall 1 1;walker 0;walker 0;walker 0;walker 0;";
        Check.due("four walkers", Check.tell(new LateFalls(), walkers), 5);
        Check.dueFault(walkers + "walker", 4, walkers.length());
    }

    private static void theFirstFault() {
        Check.dueFault("fall 9 $", 3, 5);
        Check.dueFault("fall 1 1;hour 1 $", 1, 16);
        Check.dueFault("fall 2 2;walker 7 1000;", 3, 16);
        Check.dueFault("fall 2 2;walker 0 0 0 0 0 0 0 0 1000;", 1, 32);
        Check.dueFault("fall 2 2;thing 0 for;$", 3, 15);
    }

    /** Promise 4. */
    private static void fault() {
        LateFalls x = new LateFalls();
        Check.tell(x, "fall 1 1;hour 1 2;");
        Check.due("fault(0)", x.fault(0), 2);
        Check.due("fault(1)", x.fault(1), 16);
        Check.due("fault(2)", x.fault(2), LateFalls.NONE);
        Check.due("fault(-1)", x.fault(-1), LateFalls.NONE);
        Check.badArgument("district(1)", () -> x.district(1));
        Check.due("fault(0) behind a throw", x.fault(0), 2);
        x.image(0);
        Check.tell(x, "fall 1 1;");
        Check.due("fault(0) without", x.fault(0), 0);
        Check.due("fault(1) without", x.fault(1), LateFalls.NONE);
        x.restore(0);
        Check.due("fault(0) is in no image", x.fault(0), 0);
    }

    /** Promise 5. */
    private static void thing() {
        LateFalls x = Check.of("fall 2 4;thing 5 held 3;thing 6 up 1 3 for 9;thing 7 on 1;hour 50;");
        int[][] due = {{5, 0, -1, -1, 3, -1}, {6, 1, 1, 3, -1, 9}, {7, 2, 1, 0, -1, -1}};
        for (int t = 0; t < 3; t++) {
            for (int what = 0; what < 6; what++) {
                Check.due("thing(" + t + ", " + what + ")", x.thing(t, what), due[t][what]);
            }
        }
        Check.noSuch("thing(3, 0)", () -> x.thing(3, 0));
        Check.noSuch("thing(-1, 9)", () -> x.thing(-1, 9));
        Check.badArgument("thing(0, 6)", () -> x.thing(0, 6));
        Check.badArgument("thing(0, -1)", () -> x.thing(0, -1));
        x.hours(2);
        Check.due("held for two hours more", x.thing(0, 4), 5);
        Check.due("hangs for two hours less", x.thing(1, 5), 7);
        x.take(1);
        Check.due("taken: no column", x.thing(1, 2), LateFalls.NONE);
        Check.due("taken: no level", x.thing(1, 3), LateFalls.NONE);
        Check.due("taken: held for 0 hours", x.thing(1, 4), 0);
        Check.due("taken: doesn't hang", x.thing(1, 5), LateFalls.NONE);
    }

    /** Promise 6. */
    private static void walker() {
        LateFalls x = Check.of("fall 3 2;walker 2 0 1;walker 1;thing 8 up 1 1 for 2;hour 4;");
        Check.due("walker(0, 0) in hour 4", x.walker(0, 0), 0);
        Check.due("walker(0, 2)", x.walker(0, 2), 3);
        Check.due("walker(1, 2)", x.walker(1, 2), 1);
        x.hours(1);
        Check.due("walker(0, 0) in hour 5", x.walker(0, 0), 1);
        x.hours(1);
        Check.due("walker(0, 0) in hour 6", x.walker(0, 0), 2);
        Check.due("walker(0, 1)", x.walker(0, 1), 0);
        Check.due("walker(1, 1)", x.walker(1, 1), 8);
        Check.noSuch("walker(2, 0)", () -> x.walker(2, 0));
        Check.noSuch("walker(-1, 7)", () -> x.walker(-1, 7));
        Check.badArgument("walker(0, 3)", () -> x.walker(0, 3));
        Check.badArgument("walker(0, -1)", () -> x.walker(0, -1));
    }

    /** Promises 7 and 8. */
    private static void places() {
        LateFalls x = Check.of("fall 2 3;thing 1 on 0;thing 2 on 0;thing 3 up 1 0 for 5;thing 4 held 0;");
        Check.due("height(0)", x.height(0), 2);
        Check.due("height(1)", x.height(1), 0);
        Check.noSuch("height(2)", () -> x.height(2));
        Check.noSuch("height(-1)", () -> x.height(-1));
        Check.due("at(0, 1), lying", x.at(0, 1), 1);
        Check.due("at(1, 0), hanging", x.at(1, 0), 2);
        Check.due("at(0, 2)", x.at(0, 2), LateFalls.NONE);
        Check.noSuch("at(0, 3)", () -> x.at(0, 3));
        Check.noSuch("at(2, 0)", () -> x.at(2, 0));
        Check.noSuch("at(0, -1)", () -> x.at(0, -1));
        Check.noSuch("at(-1, 0)", () -> x.at(-1, 0));
        x.take(2);
        Check.due("at(1, 0), taken", x.at(1, 0), LateFalls.NONE);
    }

    /** Promise 9. */
    private static void hanging() {
        LateFalls x = Check.of("fall 2 3;thing 7 on 1;thing 2 held 4;"
                + "hangs:held*1+weight*10+column*100+level*200+hour-lying;hour 25;");
        Check.due("hanging(0, 0, 0, 0)", x.hanging(0, 0, 0, 0), 71);
        Check.due("hanging(1, 1, 2, 5): where one lies", x.hanging(1, 1, 2, 5), 5 + 20 + 100 + 400 + 1 - 1);
        Check.due("hanging in a place that isn't free", x.hanging(1, 1, 0, 5), 5 + 20 + 100 + 1 - 1);
        Check.due("hanging(1, 1, 2, 999), 999 at most", x.hanging(1, 1, 2, 999), 999);
        Check.noSuch("hanging(2, 0, 0, 0)", () -> x.hanging(2, 0, 0, 0));
        Check.noSuch("hanging(0, 2, 0, 0)", () -> x.hanging(0, 2, 0, 0));
        Check.noSuch("hanging(0, 0, 3, -1)", () -> x.hanging(0, 0, 3, -1));
        Check.badArgument("hanging(0, 0, 0, 1000)", () -> x.hanging(0, 0, 0, 1000));
        Check.badArgument("hanging(0, 0, 0, -1)", () -> x.hanging(0, 0, 0, -1));
        LateFalls y = Check.of("fall 1 1;thing 1 held 0;");
        Check.due("without a law: as held", y.hanging(0, 0, 0, 999), 999);
    }

    private static void hangs(String law, int due) {
        LateFalls x = Check.of("fall 1 1;thing 3 held 0;hangs:" + law + ";");
        Check.due("hangs:" + law, x.hanging(0, 0, 0, 5), due);
    }

    private static void frees(String law, boolean due) {
        LateFalls x = Check.of("fall 1 4;thing 3 up 0 3 for 9;thing 2 up 0 1 for 9;hour 30;frees:" + law + ";");
        Check.due("frees:" + law, x.frees(0), due ? 2 : 0);
    }

    private static void laws() {
        hangs("2+3*4", 14);
        hangs("(2+3)*4", 20);
        hangs("20-3-4", 13);
        hangs("20-(3-4)", 21);
        hangs("held-weight", 2);
        hangs("0-5", 0);
        hangs("999+1", 999);
        // Each step is kept within a million, not the end alone.
        hangs("999*999*2-999*999-999-999", 1);
        hangs("999*999+999*999-999*999-999-995", 5);
        hangs("(0-999)*999*2+999*999+999+999+5", 4);
        hangs("0-999*999-999*999+999*999+999+999+6", 5);
        frees("wa=3 and wb=2 and la=3 and lb=1 and hour=6", true);
        frees("wa<3", false);
        frees("wa>2", true);
        frees("wa>3", false);
        frees("1=2 and 1=2 or 1=1", true);
        frees("1=1 or 1=2 and 1=2", true);
        frees("[1=1 or 1=2] and 1=2", false);
        frees("not 1=1 or 1=1", true);
        frees("not [1=1 or 1=1]", false);
        frees("not not 1=1", true);
        frees("not 1=1", false);
        frees("not 1=2", true);
        frees("not 1<2", false);
        frees("not 2<1", true);
        frees("not 2>1", false);
        frees("not 1>2", true);
        frees("not [1=1 and 1=1]", false);
        frees("not 1=2 and 1=1", true);
        frees("2*(la-lb)=wa+1", true);
        LateFalls x = Check.of("fall 1 1;thing 1 held 0;hangs:1;hangs:2;");
        Check.due("the later law strikes", x.hanging(0, 0, 0, 0), 2);
    }
}
