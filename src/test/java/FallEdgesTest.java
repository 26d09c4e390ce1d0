/** Terms, 2, and promises 5 to 17: each sentence that names an edge of falls and deeds, on both sides of it. */
public final class FallEdgesTest {
    private static final int NONE = LateFalls.NONE;
    private static final int MAX = Integer.MAX_VALUE;
    private static final int MIN = Integer.MIN_VALUE;

    public static void main(String[] args) {
        letGoAboveWhatLies();
        letGoWhereNoneHangs();
        fromWhereToWhere();
        hangsWithinBounds();
        fallsAtOnce();
        fallsAsSoonAs();
        hourModulo24();
        howManyLie();
        keptWithinAMillion();
        setFreeBelow();
        setFreeByTheLaw();
        truths();
        deepLaws();
        filledLevels();
        andSoOn();
        lowestFirst();
        whoIsHurt();
        anHour();
        takingOne();
        quakes();
        tenDeeds();
        refusedDeeds();
        fillsFromTheFloor();
        toldLettingGo();
        toldOthers();
        whyOfOneDeed();
        judgedAsIfDone();
        performedTillOneCant();
        seasonTimes();
        seasonDraws();
        seasonWithoutThings();
        Check.end();
    }

    /** "on a LEVEL that is above all that LIE there". */
    private static void letGoAboveWhatLies() {
        for (int lie = 0; lie <= 4; lie++) {
            for (int l = -1; l <= 4; l++) {
                LateFalls x = Check.of("fall 2 4;thing 9 held 5;" + "thing 1 on 1;".repeat(lie));
                int due = l < 0 || l > 3 ? -1 : l < lie ? -3 : 5;
                Check.due("letGo on level " + l + ", where " + lie + " lie", x.letGo(0, 1, l), due);
                Check.due("deeds then", x.count(9), due == 5 ? 1 : 0);
                Check.due("its level then", x.thing(0, 3), due == 5 ? l : NONE);
            }
        }
    }

    /** "and where none HANGS". */
    private static void letGoWhereNoneHangs() {
        int[] due = {5, 5, -3, 5, 5};
        for (int l = 0; l < 5; l++) {
            LateFalls x = Check.of("fall 2 5;thing 9 held 5;thing 1 up 1 2 for 9;");
            Check.due("letGo on level " + l + ", one hangs on 2", x.letGo(0, 1, l), due[l]);
            LateFalls y = Check.of("fall 2 5;thing 9 held 5;thing 1 up 1 2 for 9;");
            Check.due("letGo in the other column, level " + l, y.letGo(0, 0, l), 5);
            LateFalls z = Check.of("fall 2 5;thing 9 held 5;thing 1 up 1 2 for 9;");
            z.take(1);
            Check.due("letGo where one was taken, level " + l, z.letGo(0, 1, l), 5);
        }
    }

    /** "1 no such THING, COLUMN, LEVEL": at both ends, and far beyond. */
    private static void fromWhereToWhere() {
        LateFalls x = Check.of("fall 3 4;thing 9 held 5;thing 8 held 5;");
        int[][] nowhere = {{-1, 0, 0}, {2, 0, 0}, {MAX, 0, 0}, {MIN, 0, 0}, {0, -1, 0}, {0, 3, 0}, {0, MAX, 0},
            {0, MIN, 0}, {0, 0, -1}, {0, 0, 4}, {0, 0, MAX}, {0, 0, MIN}};
        for (int[] at : nowhere) {
            Check.due("letGo of " + at[0] + " in " + at[1] + " on " + at[2], x.letGo(at[0], at[1], at[2]), -1);
        }
        int[] nothing = {-1, 2, 8, MAX, MIN};
        for (int t : nothing) {
            Check.due("take(" + t + ")", x.take(t), -1);
        }
        Check.due("letGo(0, 0, 0)", x.letGo(0, 0, 0), 5);
        Check.due("letGo(1, 2, 3)", x.letGo(1, 2, 3), 5);
        Check.due("take(0)", x.take(0), 9);
        Check.due("take(1)", x.take(1), 8);
    }

    private static void dueHang(String law, int hour, int due) {
        String text = "fall 1 2;thing 9 held 5;thing 8 held 7;hour " + hour + ";hangs:" + law + ";";
        Check.due("hanging by " + law, Check.of(text).hanging(1, 0, 1, 7), due);
        LateFalls x = Check.of(text);
        Check.due("letGo by " + law, x.letGo(1, 0, 1), due);
        Check.due("hangs still by " + law, x.thing(1, 5), due == 0 ? NONE : due);
        Check.due("falls by " + law, x.falls(1), due == 0 ? NONE : due);
        Check.due("fallsBy by " + law, Check.of(text).fallsBy(1, 0, 1, 0), due);
    }

    /** "0 at least, 999 at most". */
    private static void hangsWithinBounds() {
        dueHang("0-999*999", 0, 0);
        dueHang("0-1", 0, 0);
        dueHang("0", 0, 0);
        dueHang("1", 0, 1);
        dueHang("held-8", 0, 0);
        dueHang("held-7", 0, 0);
        dueHang("held-6", 0, 1);
        dueHang("998", 0, 998);
        dueHang("999", 0, 999);
        dueHang("999+1", 0, 999);
        dueHang("999+2", 0, 999);
        dueHang("999*999", 0, 999);
        LateFalls bare = Check.of("fall 1 1;thing 9 held 5;");
        Check.due("without a law, held 0", bare.hanging(0, 0, 0, 0), 0);
        Check.due("without a law, held 1", bare.hanging(0, 0, 0, 1), 1);
        Check.due("without a law, held 998", bare.hanging(0, 0, 0, 998), 998);
        Check.due("without a law, held 999", bare.hanging(0, 0, 0, 999), 999);
    }

    /** "If that is 0, it falls at once." */
    private static void fallsAtOnce() {
        LateFalls x = Check.of("fall 2 4;thing 9 held 0;thing 8 held 1;thing 7 on 1;walker 1;hour 3;");
        Check.due("letGo of one held 0 hours", x.letGo(0, 1, 3), 0);
        Check.due("it lies", x.thing(0, 1), 2);
        Check.due("on the one there", x.thing(0, 3), 1);
        Check.due("in this hour", x.count(8), 3);
        Check.due("who is there is hurt now", x.walker(0, 1), 9);
        Check.due("letGo of one held 1 hour", x.letGo(1, 1, 3), 1);
        Check.due("it hangs", x.thing(1, 1), 1);
        Check.due("nobody more is hurt", x.walker(0, 1), 9);
        Check.due("two deeds", x.count(9), 2);
    }

    /** "It falls as soon as HOUR is so much more." */
    private static void fallsAsSoonAs() {
        for (int hang = 1; hang <= 5; hang++) {
            LateFalls x = Check.of("fall 1 4;thing 9 held " + hang + ";hour 997;");
            x.letGo(0, 0, 3);
            for (int n = 1; n < hang; n++) {
                Check.due("hour " + n + " of " + hang, x.hours(1), 0);
                Check.due("hangs still", x.thing(0, 5), hang - n);
            }
            Check.due("the last hour of " + hang, x.hours(1), 1);
            Check.due("it hangs no more", x.thing(0, 5), NONE);
            Check.due("its column then", x.thing(0, 2), 0);
            Check.due("its level then", x.thing(0, 3), 0);
        }
        LateFalls y = Check.of("fall 1 4;thing 9 up 0 3 for 99;");
        Check.due("hours(98)", y.hours(98), 0);
        Check.due("hours(1)", y.hours(1), 1);
        LateFalls z = Check.of("fall 1 4;thing 9 up 0 3 for 99;");
        Check.due("hours(99)", z.hours(99), 1);
    }

    /** "hour: HOUR modulo 24", in both laws. */
    private static void hourModulo24() {
        int[] hours = {0, 1, 23, 24, 25, 47, 48, 959, 960, 983, 984, 999};
        for (int hour : hours) {
            dueHang("hour", hour, hour % 24);
            String text = "fall 1 3;thing 9 up 0 2 for 1;thing 8 up 0 1 for 9;hour " + hour + ";frees:hour=";
            LateFalls now = Check.of(text + hour % 24 + ";");
            Check.due("frees(0) in hour " + hour, now.frees(0), 2);
            Check.due("hours(1), not in hour " + hour, now.hours(1), 1);
            LateFalls next = Check.of(text + (hour + 1) % 24 + ";");
            Check.due("frees(0), not in hour " + hour, next.frees(0), 0);
            Check.due("hours(1) from hour " + hour, next.hours(1), 2);
        }
        LateFalls never = Check.of("fall 1 3;thing 9 up 0 2 for 1;thing 8 up 0 1 for 9;hour 23;frees:hour>23;");
        Check.due("hour 24 is 0", never.hours(1), 1);
    }

    /** "lying: how many LIE in the COLUMN": not those that hang, nor those elsewhere. */
    private static void howManyLie() {
        LateFalls x = Check.of("fall 2 9;thing 9 held 5;thing 8 on 1;thing 7 on 1;thing 6 up 1 5 for 9;thing 5 on 0;"
                + "hangs:10*lying+1;");
        Check.due("two lie", x.hanging(0, 1, 3, 0), 21);
        Check.due("one lies", x.hanging(0, 0, 3, 0), 11);
        x.take(4);
        Check.due("none lies", x.hanging(0, 0, 3, 0), 1);
        Check.due("letGo", x.letGo(0, 1, 3), 21);
    }

    private static void dueSum(String sum, int due) {
        dueHang(sum, 0, due);
        LateFalls x = Check.of("fall 1 3;thing 9 up 0 2 for 1;thing 8 up 0 1 for 9;frees:" + sum + "=" + due + ";");
        Check.due("in frees: " + sum, x.frees(0), 2);
    }

    /** "each + - * is kept from -1,000,000 to 1,000,000". */
    private static void keptWithinAMillion() {
        String million = "(999+1)*(999+1)";
        // 1,000,000 - 998,001 = 1,999.
        String back = "-999*999-999-999";
        dueSum(million + back, 1);
        dueSum(million + "-1" + back, 0);
        dueSum(million + "-1+2" + back, 1);
        dueSum(million + "+1" + back, 1);
        dueSum(million + "+1-1" + back, 0);
        dueSum(million + "+5" + back + "+5", 6);
        dueSum("(999+2)*(999+1)" + back, 1);
        dueSum("(999+2)*(999+1)-1" + back + "+9", 9);
        String forth = "+999*999+999+999";
        dueSum("0-" + million + forth + "+1", 0);
        dueSum("0-" + million + forth + "+3", 2);
        dueSum("0-" + million + "+1" + forth + "+3", 3);
        dueSum("0-" + million + "-1" + forth + "+3", 2);
        dueSum("0-" + million + "-1+1" + forth + "+3", 3);
        dueSum("(0-999-2)*(999+1)" + forth + "+3", 2);
        dueSum("(0-999)*(999+1)-999-2" + forth + "+3", 2);
        dueSum(million + "*" + million + back, 1);
        dueSum("(0-" + million + ")*" + million + forth + "+3", 2);
        dueSum("(0-" + million + ")*(0-" + million + ")" + back, 1);
        // A sum that is kept within is no longer what it would be: a million twice less a million is none.
        dueSum(million + "+" + million + "-" + million, 0);
        dueSum(million + "+(" + million + "-" + million + ")" + back, 1);
    }

    private static void dueFall(String told, int due) {
        Check.due("fall with the first: " + told, Check.of("fall 2 9;" + told).hours(1), due);
    }

    /** "each that HANGS below one that falls": not above it, not on its level elsewhere. */
    private static void setFreeBelow() {
        String first = "thing 9 up 0 5 for 1;";
        dueFall(first + "thing 1 up 0 4 for 9;", 2);
        dueFall(first + "thing 1 up 0 6 for 9;", 1);
        dueFall(first + "thing 1 up 0 1 for 9;", 2);
        dueFall(first + "thing 1 up 0 8 for 9;", 1);
        dueFall(first + "thing 1 up 1 4 for 9;", 1);
        dueFall(first + "thing 1 up 1 5 for 9;", 1);
        dueFall(first + "thing 1 up 1 0 for 9;", 1);
        dueFall(first + "thing 1 on 0;", 1);
        dueFall(first + "thing 1 held 9;", 1);
        dueFall(first + "thing 1 up 0 4 for 9;thing 1 up 0 3 for 9;thing 1 up 0 2 for 9;thing 1 up 0 7 for 9;", 4);
    }

    /** "if the law frees holds (without one: always): wa, wb: WEIGHT of the upper, the lower one, la, lb: LEVELS". */
    private static void setFreeByTheLaw() {
        String two = "thing 9 up 0 7 for 1;thing 4 up 0 5 for 9;";
        dueFall(two, 2);
        dueFall(two + "frees:1=1;", 2);
        dueFall(two + "frees:1=2;", 1);
        dueFall(two + "frees:wa=9 and wb=4 and la=7 and lb=5;", 2);
        dueFall(two + "frees:wa=4;", 1);
        dueFall(two + "frees:wb=9;", 1);
        dueFall(two + "frees:la=5;", 1);
        dueFall(two + "frees:lb=7;", 1);
        dueFall(two + "frees:la>lb+1;", 2);
        dueFall(two + "frees:la>lb+2;", 1);
        dueFall(two + "frees:wa<wb+6;", 2);
        dueFall(two + "frees:wa<wb+5;", 1);
    }

    private static void dueTruth(String truth, boolean due) {
        LateFalls x = Check.of("fall 1 9;thing 9 up 0 7 for 1;thing 4 up 0 5 for 9;frees:" + truth + ";");
        Check.due("frees:" + truth, x.frees(0), due ? 2 : 0);
    }

    /** "TRUTH: BOTH { or BOTH }; BOTH: UNIT { and UNIT }; UNIT: not UNIT, [ TRUTH ], or SUM, one of = < >, SUM." */
    private static void truths() {
        String[] of = {"1=2", "1=1"};
        for (int a = 0; a < 2; a++) {
            dueTruth(of[a], a == 1);
            dueTruth("not " + of[a], a == 0);
            dueTruth("not not " + of[a], a == 1);
            dueTruth("[" + of[a] + "]", a == 1);
            for (int b = 0; b < 2; b++) {
                dueTruth(of[a] + " or " + of[b], a + b > 0);
                dueTruth(of[a] + " and " + of[b], a + b == 2);
                dueTruth("not " + of[a] + " or " + of[b], a == 0 || b == 1);
                dueTruth("not " + of[a] + " and " + of[b], a == 0 && b == 1);
                dueTruth("not [" + of[a] + " or " + of[b] + "]", a + b == 0);
                dueTruth("not [" + of[a] + " and " + of[b] + "]", a + b < 2);
                for (int c = 0; c < 2; c++) {
                    dueTruth(of[a] + " or " + of[b] + " and " + of[c], a == 1 || b + c == 2);
                    dueTruth(of[a] + " and " + of[b] + " or " + of[c], a + b == 2 || c == 1);
                    dueTruth(of[a] + " and [" + of[b] + " or " + of[c] + "]", a == 1 && b + c > 0);
                    dueTruth(of[a] + " or " + of[b] + " or " + of[c], a + b + c > 0);
                    dueTruth(of[a] + " and " + of[b] + " and " + of[c], a + b + c == 3);
                }
            }
        }
        int[] sums = {4, 5, 6};
        for (int n : sums) {
            dueTruth("lb=" + n, n == 5);
            dueTruth("lb<" + n, 5 < n);
            dueTruth("lb>" + n, 5 > n);
            dueTruth("0-lb<0-" + n, 5 > n);
        }
    }

    /** Six within one another, with something open ahead of each. */
    private static void deepLaws() {
        String sum = "1";
        int due = 1;
        for (int i = 0; i < 6; i++) {
            sum = "1+2*(" + sum + ")";
            due = 1 + 2 * due;
        }
        dueHang(sum, 0, due);
        for (int value = 1; value <= 2; value++) {
            String truth = "1=2 or 1=1 and 3=1+2*" + value;
            for (int i = 0; i < 6; i++) {
                truth = "1=2 or 1=1 and [" + truth + "]";
            }
            dueTruth(truth, value == 1);
            String mixed = "1=2 or 1=1 and 7=1+2*(1+2*(" + value + "))";
            for (int i = 0; i < 4; i++) {
                mixed = "1=2 or 1=1 and [" + mixed + "]";
            }
            dueTruth(mixed, value == 1);
        }
    }

    /** "each that HANGS on a LEVEL that would be filled as all that fall LIE there". */
    private static void filledLevels() {
        String none = "frees:1=2;";
        for (int lie = 0; lie <= 3; lie++) {
            String told = none + "thing 9 up 0 8 for 1;" + "thing 1 on 0;".repeat(lie) + "thing 1 up 0 ";
            dueFall(told + lie + " for 9;", 2);
            dueFall(told + (lie + 1) + " for 9;", 1);
        }
        dueFall(none + "thing 9 up 0 8 for 1;thing 9 up 0 7 for 1;thing 1 up 0 1 for 9;", 3);
        dueFall(none + "thing 9 up 0 8 for 1;thing 9 up 0 7 for 1;thing 1 up 0 2 for 9;", 2);
        LateFalls x = Check.of("fall 1 4;frees:1=2;thing 9 held 0;thing 8 up 0 1 for 9;thing 7 up 0 0 for 9;");
        Check.due("frees: on the floor, then on level 1", x.frees(1), 4);
        Check.due("letGo at once", x.letGo(0, 0, 3), 0);
        Check.due("three lie", x.height(0), 3);
    }

    /** "and so on". */
    private static void andSoOn() {
        // The first sets one free, two fill levels 0 and 1, three level 2, four level 3: 5 stays.
        LateFalls x = Check.of("fall 1 9;frees:wa=9;thing 9 up 0 8 for 1;thing 4 up 0 7 for 9;thing 9 up 0 1 for 9;"
                + "thing 3 up 0 2 for 9;thing 3 up 0 5 for 9;frees:wa=9 and wb=4;");
        Check.due("frees(0)", x.frees(0), 2 + 4 + 8);
        Check.due("hours(1)", x.hours(1), 4);
        Check.due("it hangs still", x.thing(4, 5), 8);
        LateFalls y = Check.of("fall 1 9;thing 8 up 0 8 for 1;thing 7 up 0 7 for 9;thing 6 up 0 6 for 9;"
                + "thing 5 up 0 5 for 9;thing 4 up 0 4 for 9;thing 3 up 0 3 for 9;thing 2 up 0 2 for 9;"
                + "thing 1 up 0 1 for 9;frees:wa=wb+1;");
        Check.due("eight, each by the one above", y.hours(1), 8);
        LateFalls z = Check.of("fall 1 9;thing 1 up 0 1 for 9;thing 2 up 0 2 for 9;thing 3 up 0 3 for 9;"
                + "thing 4 up 0 4 for 9;thing 5 up 0 5 for 9;thing 6 up 0 6 for 9;thing 7 up 0 7 for 9;"
                + "thing 8 up 0 8 for 1;frees:wa=wb+1;");
        Check.due("eight, told from below", z.hours(1), 8);
        LateFalls fill = Check.of("fall 1 9;thing 1 up 0 6 for 9;thing 2 up 0 5 for 9;thing 3 up 0 4 for 9;"
                + "thing 4 up 0 3 for 9;thing 5 up 0 2 for 9;thing 6 up 0 1 for 9;thing 7 up 0 0 for 9;"
                + "thing 8 up 0 8 for 1;frees:1=2;");
        Check.due("eight, each by a filled level", fill.hours(1), 8);
    }

    /** "All of them come to LIE there, the lowest first." */
    private static void lowestFirst() {
        LateFalls x = Check.of("fall 1 9;thing 1 on 0;thing 2 up 0 8 for 1;thing 3 up 0 3 for 9;thing 4 up 0 6 for 9;"
                + "thing 5 up 0 5 for 1;");
        x.hours(1);
        int[] due = {0, 4, 1, 3, 2};
        for (int t = 0; t < 5; t++) {
            Check.due("level of thing " + t, x.thing(t, 3), due[t]);
        }
        Check.due("none above", x.at(0, 5), NONE);
    }

    /** "Each WALKER there is HURT by all their WEIGHT." */
    private static void whoIsHurt() {
        LateFalls x = Check.of("fall 3 9;thing 99 up 1 8 for 2;thing 98 up 1 7 for 9;thing 97 on 1;thing 5 up 2 4 for 2;"
                + "walker 1;walker 0 0 1;walker 1 1 0;walker 2;");
        x.hours(1);
        Check.due("ahead of the hour", x.count(11), 0);
        x.hours(1);
        int[] due = {197, 197, 0, 5};
        for (int w = 0; w < 4; w++) {
            Check.due("walker " + w, x.walker(w, 1), due[w]);
        }
        Check.due("all", x.count(11), 399);
    }

    /** "HOUR is 1 more; then those fall whose time it is": the walkers have gone on by then. */
    private static void anHour() {
        LateFalls x = Check.of("fall 2 4;thing 9 up 0 3 for 1;walker 0 1;walker 1 0;");
        Check.due("hours(1)", x.hours(1), 1);
        Check.due("who was there before", x.walker(0, 1), 0);
        Check.due("who is there now", x.walker(1, 1), 9);
        LateFalls y = Check.of("fall 1 9;thing 1 up 0 8 for 1;thing 2 up 0 7 for 50;thing 3 up 0 6 for 99;frees:1=2;");
        Check.badArgument("hours(0)", () -> y.hours(0));
        Check.badArgument("hours(100)", () -> y.hours(100));
        Check.due("hours(1), the least", y.hours(1), 1);
        Check.due("one hour", y.count(8), 1);
        y.undo(1);
        Check.due("hours(99), the most", y.hours(99), 3);
        Check.due("99 hours", y.count(8), 99);
        Check.due("one deed", y.count(9), 1);
    }

    /** "To TAKE a THING that HANGS, or LIES with none on it: it is HELD, for 0 HOURS." */
    private static void takingOne() {
        LateFalls x = Check.of("fall 2 9;thing 11 on 0;thing 12 on 0;thing 13 on 0;thing 14 up 0 5 for 9;"
                + "thing 15 up 0 8 for 3;thing 16 on 1;thing 17 held 7;hour 5;");
        Check.due("take(0): two lie on it", x.take(0), -3);
        Check.due("take(1): one lies on it", x.take(1), -3);
        Check.due("take(6): it is held", x.take(6), -2);
        Check.due("no deed", x.count(9), 0);
        Check.due("take(2): the highest", x.take(2), 13);
        Check.due("take(1) then", x.take(1), 12);
        Check.due("take(3): one hangs above it", x.take(3), 14);
        Check.due("take(4): it hangs", x.take(4), 15);
        Check.due("take(5): alone", x.take(5), 16);
        Check.due("take(0): the last", x.take(0), 11);
        Check.due("six deeds", x.count(9), 6);
        for (int t = 0; t < 6; t++) {
            Check.due("held for 0 hours, " + t, x.thing(t, 4), 0);
            Check.due("take again, " + t, x.take(t), -2);
        }
        x.hours(1);
        Check.due("held for an hour", x.thing(0, 4), 1);
        Check.due("held for 8 hours", x.thing(6, 4), 8);
        Check.due("nothing hangs any more", x.next(), NONE);
    }

    /** "A QUAKE: all that HANG fall at once." */
    private static void quakes() {
        LateFalls x = Check.of("fall 3 9;frees:1=2;thing 1 up 0 8 for 99;thing 2 up 0 4 for 9;thing 3 up 1 8 for 1;"
                + "thing 4 held 3;thing 5 on 2;walker 0 1 2;hour 4;");
        Check.due("quake()", x.quake(), 3);
        Check.due("the walker is in column 1 now", x.walker(0, 1), 3);
        Check.due("held as before", x.thing(3, 4), 3);
        Check.due("height(0)", x.height(0), 2);
        Check.due("height(1)", x.height(1), 1);
        Check.due("height(2)", x.height(2), 1);
        Check.due("none hangs", x.count(5), 0);
        Check.due("quake() of none", x.quake(), 0);
        Check.due("a deed, too", x.count(9), 2);
        Check.due("the hour stays", x.count(8), 4);
    }

    /** "each can be UNDONE, the latest first, 10 at most (eldest are forgotten)". */
    private static void tenDeeds() {
        for (int deeds = 0; deeds <= 13; deeds++) {
            LateFalls x = Check.of("fall 1 1;hour 100;");
            for (int i = 0; i < deeds; i++) {
                x.hours(1);
            }
            int can = Math.min(10, deeds);
            Check.due("can be undone of " + deeds, x.count(9), can);
            Check.badArgument("undo(0) of " + deeds, () -> x.undo(0));
            Check.badArgument("undo(-1) of " + deeds, () -> x.undo(-1));
            Check.badArgument("undo(11) of " + deeds, () -> x.undo(11));
            Check.badArgument("one too many of " + deeds, () -> x.undo(can + 1));
            Check.badArgument("undo(MAX) of " + deeds, () -> x.undo(MAX));
            Check.badArgument("undo(MIN) of " + deeds, () -> x.undo(MIN));
            Check.due("nothing was undone", x.count(8), 100 + deeds);
            if (can > 0) {
                Check.due("all of " + deeds, x.undo(can), 0);
                Check.due("the hour then", x.count(8), 100 + deeds - can);
                Check.badArgument("no more of " + deeds, () -> x.undo(1));
            }
        }
        LateFalls x = Check.of("fall 1 1;");
        for (int i = 1; i <= 10; i++) {
            x.hours(i);
        }
        int hour = 55;
        for (int i = 10; i >= 1; i--) {
            Check.due("the latest first", x.undo(1), i - 1);
            hour -= i;
            Check.due("the hour then", x.count(8), hour);
        }
    }

    /** "below 0: less why it can't be (nothing happens)": no deed, and nothing forgotten. */
    private static void refusedDeeds() {
        LateFalls x = Check.of("fall 1 3;thing 5 held 1;thing 6 on 0;thing 7 on 0;");
        for (int i = 0; i < 12; i++) {
            x.hours(1);
        }
        x.undo(3);
        int[] refused = {x.letGo(9, 0, 0), x.letGo(1, 0, 2), x.letGo(0, 0, 1), x.take(9), x.take(0), x.take(1)};
        int[] due = {-1, -2, -3, -1, -2, -3};
        for (int i = 0; i < 6; i++) {
            Check.due("refused deed " + i, refused[i], due[i]);
        }
        Check.due("no deed more", x.count(9), 7);
        Check.due("the hour", x.count(8), 9);
        Check.due("held as before", x.thing(0, 4), 10);
        Check.due("all can be undone", x.undo(7), 0);
        Check.due("the hour then", x.count(8), 2);
    }

    /** "What LIES in a COLUMN fills its LEVELS from 0 on, one each; what HANGS is above these, alone on its LEVEL." */
    private static void fillsFromTheFloor() {
        for (int seed = 1; seed <= 60; seed++) {
            LateFalls x = Check.of("fall 3 4;thing 1 held 1;thing 2 held 2;thing 3 up 0 3 for 4;thing 4 up 0 2 for 9;"
                    + "thing 5 on 1;thing 6 on 1;thing 7 up 2 1 for 2;thing 8 held 0;hangs:held*weight-level;"
                    + "frees:wa>wb;");
            for (int i = 0; i < 6; i++) {
                x.season(seed * 77773 + i, 5);
                dueFilled(x, "season " + seed);
            }
        }
    }

    private static void dueFilled(LateFalls x, String when) {
        int found = 0;
        for (int c = 0; c < 3; c++) {
            for (int l = 0; l < 4; l++) {
                int t = x.at(c, l);
                boolean lies = t != NONE && x.thing(t, 1) == 2;
                Check.due("lies on level " + l + " of column " + c + ", " + when, lies ? 1 : 0, l < x.height(c) ? 1 : 0);
                found += t != NONE ? 1 : 0;
            }
        }
        Check.due("all that aren't held have a level of their own, " + when, found, x.count(5) + x.count(6));
    }

    private static int why(LateFalls x, long deed) {
        x.tray(0, 3, 1);
        x.write(0, 0, deed);
        int place = x.judge(0, 0);
        int why = x.judge(0, 1);
        Check.due("place of " + deed, place, why == 0 ? NONE : 0);
        return why;
    }

    /** "0 to 799: THING v by 100 is LET GO in COLUMN v by 10 modulo 10 on LEVEL v modulo 10". */
    private static void toldLettingGo() {
        String eight = "fall 6 9;" + "thing 5 held 3;".repeat(8);
        LateFalls x = Check.of(eight);
        Check.due("0", why(x, 0), 0);
        Check.due("8, the highest level", why(x, 8), 0);
        Check.due("9, no such level", why(x, 9), 1);
        Check.due("58, the last place", why(x, 58), 0);
        Check.due("60, no such column", why(x, 60), 1);
        Check.due("90", why(x, 90), 1);
        Check.due("700, the last thing", why(x, 700), 0);
        Check.due("758", why(x, 758), 0);
        Check.due("799", why(x, 799), 1);
        Check.due("800, no such number", why(x, 800), 1);
        LateFalls y = Check.of(eight);
        y.tray(1, 2, 1);
        y.write(1, 0, 758);
        Check.due("perform 758", y.perform(1), 1);
        Check.due("thing 7 in column 5", y.thing(7, 2), 5);
        Check.due("on level 8", y.thing(7, 3), 8);
        LateFalls few = Check.of("fall 2 3;thing 5 held 3;thing 6 held 3;");
        Check.due("112", why(few, 112), 0);
        Check.due("113", why(few, 113), 1);
        Check.due("120", why(few, 120), 1);
        Check.due("200", why(few, 200), 1);
    }

    /** "1000 and a THING: it is TAKEN; 2000: a QUAKE; NONE: an HOUR"; "no such .. number". */
    private static void toldOthers() {
        LateFalls x = Check.of("fall 6 9;" + "thing 5 on 1;thing 4 up 1 8 for 3;" + "thing 5 on 0;".repeat(6));
        Check.due("999", why(x, 999), 1);
        Check.due("1000", why(x, 1000), 0);
        Check.due("1001", why(x, 1001), 0);
        Check.due("1006, one lies on it", why(x, 1006), 3);
        Check.due("1007", why(x, 1007), 0);
        Check.due("1008", why(x, 1008), 1);
        Check.due("1999", why(x, 1999), 1);
        Check.due("2000", why(x, 2000), 0);
        Check.due("2001", why(x, 2001), 1);
        Check.due("-1", why(x, -1), 0);
        Check.due("-2", why(x, -2), 1);
        Check.due("Long.MAX_VALUE", why(x, Long.MAX_VALUE), 1);
        Check.due("Long.MIN_VALUE", why(x, Long.MIN_VALUE), 1);
        for (long far = 1L << 31; far > 0 && far <= 1L << 48; far <<= 1) {
            Check.due(far + " and 2000", why(x, far + 2000), 1);
            Check.due(far + " and 1000", why(x, far + 1000), 1);
            Check.due(far + " less, and 2000", why(x, 2000 - far), 1);
        }
        Check.due("two things, 1002", why(Check.of("fall 1 1;thing 1 on 0;thing 1 held 0;"), 1002), 1);
        Check.due("two things, 1001", why(Check.of("fall 1 1;thing 1 on 0;thing 1 held 0;"), 1001), 2);
        Check.due("no things, 1000", why(new LateFalls(), 1000), 1);
        Check.due("no things, 0", why(new LateFalls(), 0), 1);
        Check.due("no things, 2000", why(new LateFalls(), 2000), 0);
        Check.due("no things, -1", why(new LateFalls(), -1), 0);
    }

    /** "1 .. 2 it isn't HELD (to LET GO), it is (to TAKE); 3 ..": of one deed the first. */
    private static void whyOfOneDeed() {
        LateFalls x = Check.of("fall 2 3;thing 5 held 3;thing 6 on 1;thing 7 up 1 2 for 9;thing 8 on 1;");
        Check.due("100: it lies, its place is free", why(x, 100), 2);
        Check.due("110: it lies, one lies there", why(x, 110), 2);
        Check.due("120: it lies, no such column", why(x, 120), 1);
        Check.due("200: it hangs", why(x, 200), 2);
        Check.due("212: it hangs there itself", why(x, 212), 2);
        Check.due("10: one lies there", why(x, 10), 3);
        Check.due("11: one lies there", why(x, 11), 3);
        Check.due("12: one hangs there", why(x, 12), 3);
        Check.due("2: free", why(x, 2), 0);
        Check.due("1000: held", why(x, 1000), 2);
        Check.due("1001: one lies on it", why(x, 1001), 3);
        Check.due("1002: hangs", why(x, 1002), 0);
        Check.due("1003: none lies on it", why(x, 1003), 0);
        int[][] asked = {{1, 0, 0}, {1, 1, 0}, {1, 2, 0}, {2, 0, 0}, {2, 1, 2}, {0, 1, 0}, {0, 1, 1}, {0, 1, 2}};
        int[] due = {-2, -2, -1, -2, -2, -3, -3, -3};
        for (int i = 0; i < due.length; i++) {
            Check.due("letGo as told, " + i, x.letGo(asked[i][0], asked[i][1], asked[i][2]), due[i]);
        }
    }

    private static void lay(LateFalls x, int tray, long... deeds) {
        x.tray(tray, 3, deeds.length);
        for (int i = 0; i < deeds.length; i++) {
            x.write(tray, i, deeds[i]);
        }
    }

    private static void dueJudge(LateFalls x, int place, int why, int lie, int hurt, long... deeds) {
        lay(x, 2, deeds);
        int[] due = {place, why, lie, hurt};
        for (int what = 0; what < 4; what++) {
            Check.due("judge " + what + " of " + java.util.Arrays.toString(deeds), x.judge(2, what), due[what]);
        }
    }

    /** "TOLD DEEDS, judged as if done, what 0: the first place that can't be (NONE), 1: why (0)". */
    private static void judgedAsIfDone() {
        LateFalls x = Check.of("fall 2 3;thing 5 held 0;thing 6 on 1;thing 7 up 1 2 for 2;walker 1;");
        x.hours(1);
        dueJudge(x, NONE, 0, 1, 0);
        dueJudge(x, NONE, 0, 2, 7, -1);
        dueJudge(x, NONE, 0, 2, 7, 2000);
        dueJudge(x, NONE, 0, 0, 0, 1001);
        dueJudge(x, NONE, 0, 3, 12, -1, -1, -1, 12, -1, -1, -1, -1);
        dueJudge(x, 0, 1, 1, 0, 800, -1);
        dueJudge(x, 1, 1, 2, 7, -1, 800, 2000, -1);
        dueJudge(x, 2, 2, 2, 7, -1, 2, 1, -1);
        dueJudge(x, 1, 3, 2, 7, 2000, 1001, -1);
        // Taken and let go in the same hour it falls at once.
        dueJudge(x, NONE, 0, 2, 7, 1002, 212);
        dueJudge(x, NONE, 0, 2, 14, 1002, 212, 1002, 212);
        Check.due("the hour", x.count(8), 1);
        Check.due("one deed", x.count(9), 1);
        Check.due("none is hurt", x.count(11), 0);
        Check.badArgument("judge(2, 4)", () -> x.judge(2, 4));
        Check.badArgument("judge(2, -1)", () -> x.judge(2, -1));
    }

    /** "They are done (each a DEED), till one can't be: how many were." */
    private static void performedTillOneCant() {
        LateFalls x = Check.of("fall 2 3;thing 5 held 0;thing 6 on 1;thing 7 up 1 2 for 2;walker 1;");
        lay(x, 3);
        Check.due("none", x.perform(3), 0);
        lay(x, 3, 800, -1, -1);
        Check.due("the first can't be", x.perform(3), 0);
        Check.due("no deed", x.count(9), 0);
        Check.due("no hour", x.count(8), 0);
        lay(x, 3, -1, -1, 1001, -1);
        Check.due("the third can't be", x.perform(3), 2);
        Check.due("two deeds", x.count(9), 2);
        Check.due("two hours", x.count(8), 2);
        lay(x, 3, 2000, 1002, 1001);
        Check.due("all can be", x.perform(3), 3);
        Check.due("five deeds", x.count(9), 5);
        Check.due("all are held", x.count(4), 3);
        LateFalls full = new LateFalls();
        long[] hours = new long[30];
        java.util.Arrays.fill(hours, -1);
        lay(full, 0, hours);
        Check.due("a full tray", full.perform(0), 30);
        Check.due("30 hours", full.count(8), 30);
        Check.due("ten of them can be undone", full.undo(10), 0);
        Check.due("20 hours", full.count(8), 20);
    }

    /** "so many times (1 to 30)". */
    private static void seasonTimes() {
        LateFalls x = new LateFalls();
        int[] wrong = {0, -1, 31, MAX, MIN};
        for (int times : wrong) {
            Check.badArgument("season(7, " + times + ")", () -> x.season(7, times));
        }
        Check.due("no deed", x.count(9), 0);
        Check.due("season(0, 1)", x.season(0, 1), 1);
        // 12345 >>> 16 is 0: an hour.
        Check.due("an hour", x.count(8), 1);
        LateFalls once = new LateFalls();
        LateFalls again = new LateFalls();
        Check.due("the same seed, the same season", once.season(7, 30), again.season(7, 30));
        LateFalls fresh = new LateFalls();
        fresh.season(99, 30);
        int before = fresh.count(8);
        Check.due("a season goes on from none before", fresh.season(7, 30), once.count(8));
        Check.due("its hours", fresh.count(8) - before, once.count(8));
    }

    private static int seed;

    private static int draw() {
        seed = 1103515245 * seed + 12345;
        return seed >>> 16;
    }

    /** "DRAW modulo 4: 0 and 1 an HOUR; 2 .. is LET GO ..; 3 .. is TAKEN; if it can be". */
    private static void seasonDraws() {
        String text = "fall 5 7;thing 5 held 1;thing 6 on 1;thing 7 up 1 2 for 1;walker 1;thing 3 held 5;thing 1 on 1;"
                + "hangs:held;";
        int[] seeds = {0, 1, -1, MAX, MIN, 65536, -65536, 123456789, 20261118, -987654321};
        for (int first : seeds) {
            LateFalls told = Check.of(text);
            LateFalls drawn = Check.of(text);
            seed = first;
            int could = 0;
            for (int i = 0; i < 30; i++) {
                int sort = draw() % 4;
                if (sort < 2) {
                    told.hours(1);
                    could++;
                } else if (sort == 2) {
                    int t = draw() % 5;
                    int c = draw() % 5;
                    could += told.letGo(t, c, draw() % 7) >= 0 ? 1 : 0;
                } else {
                    could += told.take(draw() % 5) >= 0 ? 1 : 0;
                }
            }
            Check.due("season of " + first, drawn.season(first, 30), could);
            for (int t = 0; t < 5; t++) {
                for (int what = 1; what < 6; what++) {
                    Check.due("thing(" + t + ", " + what + ") then", drawn.thing(t, what), told.thing(t, what));
                }
            }
            Check.due("the hour then", drawn.count(8), told.count(8));
            Check.due("each a deed", drawn.count(9), Math.min(10, could));
            Check.due("undone as the deeds are", drawn.undo(drawn.count(9)), told.undo(told.count(9)));
            Check.due("the hour then", drawn.count(8), told.count(8));
        }
    }

    /** "without THINGS: HOURS alone, no more DRAWS". */
    private static void seasonWithoutThings() {
        for (int first = 0; first < 40; first++) {
            LateFalls x = Check.of("fall 6 9;walker 0 1;");
            seed = first * 1000003;
            int hours = 0;
            for (int i = 0; i < 30; i++) {
                hours += draw() % 4 < 2 ? 1 : 0;
            }
            Check.due("season without things, " + first, x.season(first * 1000003, 30), hours);
            Check.due("its hours", x.count(8), hours);
            Check.due("each a deed", x.count(9), Math.min(10, hours));
        }
    }
}
