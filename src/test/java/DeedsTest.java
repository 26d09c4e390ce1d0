/** Promises 10 to 17: deeds, undone, told, drawn. */
public final class DeedsTest {
    public static void main(String[] args) {
        letGo();
        letGoAtOnce();
        take();
        quake();
        hours();
        whatFallsTogether();
        undo();
        judge();
        perform();
        season();
        Check.end();
    }

    /** Promise 10. */
    private static void letGo() {
        LateFalls x = Check.of("fall 2 3;thing 5 held 3;thing 6 on 0;thing 7 up 0 2 for 9;thing 8 held 0;hour 1;");
        Check.due("letGo(4, 0, 0): no such thing", x.letGo(4, 0, 0), -1);
        Check.due("letGo(-1, 0, 0)", x.letGo(-1, 0, 0), -1);
        Check.due("letGo(0, 2, 0): no such column", x.letGo(0, 2, 0), -1);
        Check.due("letGo(0, -1, 0)", x.letGo(0, -1, 0), -1);
        Check.due("letGo(0, 0, 3): no such level", x.letGo(0, 0, 3), -1);
        Check.due("letGo(0, 0, -1)", x.letGo(0, 0, -1), -1);
        Check.due("letGo(1, 0, 9): the first why", x.letGo(1, 0, 9), -1);
        Check.due("letGo(1, 0, 0): it lies", x.letGo(1, 0, 0), -2);
        Check.due("letGo(2, 0, 1): it hangs", x.letGo(2, 0, 1), -2);
        Check.due("letGo(0, 0, 0): one lies there", x.letGo(0, 0, 0), -3);
        Check.due("letGo(0, 0, 2): one hangs there", x.letGo(0, 0, 2), -3);
        Check.due("no deed so far", x.count(9), 0);
        Check.due("letGo(0, 0, 1)", x.letGo(0, 0, 1), 3);
        Check.due("it hangs", x.thing(0, 1), 1);
        Check.due("a deed", x.count(9), 1);
        x.hours(2);
        Check.due("it hangs still", x.thing(0, 5), 1);
        Check.due("it falls as soon as the hour is 3 more", x.hours(1), 1);
        Check.due("on what lies there", x.at(0, 1), 0);
        Check.due("letGo below one that hangs", x.letGo(3, 0, 2), -3);
        Check.due("letGo(3, 1, 2), held for three hours", x.letGo(3, 1, 2), 3);
    }

    private static void letGoAtOnce() {
        LateFalls x = Check.of("fall 2 4;thing 5 held 0;thing 6 up 0 1 for 9;thing 7 up 0 3 for 9;walker 0;walker 1;");
        Check.due("letGo(0, 0, 2)", x.letGo(0, 0, 2), 0);
        Check.due("what hangs below falls with it", x.at(0, 0), 1);
        Check.due("it lies on that", x.at(0, 1), 0);
        Check.due("what hangs above stays", x.at(0, 3), 2);
        Check.due("who is there is hurt by all of it", x.walker(0, 1), 11);
        Check.due("who isn't there is not hurt", x.walker(1, 1), 0);
    }

    /** Promise 11. */
    private static void take() {
        LateFalls x = Check.of("fall 1 4;thing 5 on 0;thing 6 on 0;thing 7 up 0 2 for 3;thing 8 held 2;");
        Check.due("take(4)", x.take(4), -1);
        Check.due("take(-1)", x.take(-1), -1);
        Check.due("take(3): it is held", x.take(3), -2);
        Check.due("take(0): one lies on it", x.take(0), -3);
        Check.due("no deed so far", x.count(9), 0);
        Check.due("take(1): one hangs above it", x.take(1), 6);
        Check.due("take(0) then", x.take(0), 5);
        Check.due("take(2): it hangs", x.take(2), 7);
        Check.due("three deeds", x.count(9), 3);
        Check.due("held for 0 hours", x.thing(2, 4), 0);
        Check.due("take(2) again", x.take(2), -2);
    }

    /** Promise 12. */
    private static void quake() {
        LateFalls x = Check.of("fall 2 4;thing 5 up 0 3 for 99;thing 6 up 0 1 for 9;thing 7 up 1 2 for 3;thing 8 on 1;"
                + "thing 9 held 0;walker 0;walker 1;walker 0;frees:1=2;");
        Check.due("quake()", x.quake(), 3);
        Check.due("the lowest first", x.at(0, 0), 1);
        Check.due("then the next one", x.at(0, 1), 0);
        Check.due("in the other column too", x.at(1, 1), 2);
        Check.due("walker 0", x.walker(0, 1), 11);
        Check.due("walker 1", x.walker(1, 1), 7);
        Check.due("walker 2", x.walker(2, 1), 11);
        Check.due("the hour stays", x.count(8), 0);
        Check.due("quake() again", x.quake(), 0);
        Check.due("each is a deed", x.count(9), 2);
    }

    /** Promise 13. */
    private static void hours() {
        LateFalls x = Check.of("fall 2 3;thing 5 up 0 2 for 2;thing 6 up 1 2 for 3;thing 7 up 1 1 for 50;"
                + "walker 1 1 1 0;frees:1=2;hour 23;");
        Check.badArgument("hours(0)", () -> x.hours(0));
        Check.badArgument("hours(100)", () -> x.hours(100));
        Check.badArgument("hours(-1)", () -> x.hours(-1));
        Check.due("hours(3)", x.hours(3), 2);
        Check.due("the hour", x.count(8), 26);
        Check.due("one deed", x.count(9), 1);
        Check.due("hurt in hour 26 by one", x.walker(0, 1), 6);
        Check.due("hours(99)", x.hours(99), 1);
        Check.due("hurt in hour 73", x.walker(0, 1), 13);
        Check.due("hours(99) again", x.hours(99), 0);
    }

    /** Terms, 2: those that fall in a column in an hour. */
    private static void whatFallsTogether() {
        LateFalls chain = Check.of("fall 1 9;thing 5 up 0 8 for 1;thing 4 up 0 6 for 9;thing 3 up 0 4 for 9;"
                + "thing 9 up 0 3 for 9;frees:wa=wb+1;");
        Check.due("one frees the next, that the next", chain.hours(1), 3);
        Check.due("the one that none frees and none fills hangs", chain.thing(3, 1), 1);
        LateFalls stays = Check.of("fall 1 9;thing 5 up 0 8 for 1;thing 4 up 0 6 for 9;thing 9 up 0 2 for 9;"
                + "frees:wa=wb+1;");
        Check.due("two fall", stays.hours(1), 2);
        Check.due("one hangs right above them", stays.thing(2, 1), 1);
        Check.due("on its level", stays.thing(2, 3), 2);
        LateFalls fills = Check.of("fall 1 9;thing 1 on 0;thing 5 up 0 8 for 1;thing 4 up 0 1 for 9;"
                + "thing 9 up 0 2 for 9;thing 9 up 0 4 for 9;frees:1=2;");
        Check.due("filled levels fall with it, one by one", fills.hours(1), 3);
        Check.due("the lowest first", fills.at(0, 1), 2);
        Check.due("then the next", fills.at(0, 2), 3);
        Check.due("then the one whose time it was", fills.at(0, 3), 1);
        Check.due("the one above hangs", fills.thing(4, 1), 1);
        LateFalls mixed = Check.of("fall 1 9;thing 5 up 0 8 for 1;thing 4 up 0 0 for 9;thing 3 up 0 7 for 9;"
                + "frees:lb=7 and la=0;");
        Check.due("a lower one frees none above it", mixed.hours(1), 2);
        LateFalls night = Check.of("fall 1 3;thing 5 up 0 2 for 1;thing 4 up 0 1 for 9;frees:hour=0;hour 23;");
        Check.due("the law's hour is that of the fall, modulo 24", night.hours(1), 2);
    }

    /** Promise 14. */
    private static void undo() {
        LateFalls x = Check.of("fall 1 3;thing 5 held 1;walker 0;");
        Check.badArgument("undo(1) of none", () -> x.undo(1));
        x.letGo(0, 0, 2);
        x.hours(4);
        x.take(0);
        x.quake();
        Check.badArgument("undo(0)", () -> x.undo(0));
        Check.badArgument("undo(-1)", () -> x.undo(-1));
        Check.badArgument("undo(5)", () -> x.undo(5));
        Check.badArgument("undo(11)", () -> x.undo(11));
        Check.due("undo(2)", x.undo(2), 2);
        Check.due("it lies again", x.thing(0, 1), 2);
        Check.due("hurt stays", x.count(11), 5);
        Check.due("undo(1)", x.undo(1), 1);
        Check.due("the hour is undone", x.count(8), 0);
        Check.due("the hurt is undone", x.count(11), 0);
        Check.due("it hangs again", x.thing(0, 5), 1);
        Check.due("undo(1) again", x.undo(1), 0);
        Check.due("it is held again", x.thing(0, 4), 1);
        for (int i = 0; i < 13; i++) {
            x.hours(1);
        }
        Check.due("ten can be undone", x.count(9), 10);
        Check.due("undo(4)", x.undo(4), 6);
        x.hours(1);
        Check.due("undo(7)", x.undo(7), 0);
        Check.due("the eldest are forgotten", x.count(8), 3);
    }

    private static void tell(LateFalls x, int tray, int sort, long... deeds) {
        x.tray(tray, sort, deeds.length);
        for (int i = 0; i < deeds.length; i++) {
            x.write(tray, i, deeds[i]);
        }
    }

    private static void dueJudge(LateFalls x, long[] deeds, int place, int why) {
        tell(x, 1, 3, deeds);
        Check.due("judge 0 of " + java.util.Arrays.toString(deeds), x.judge(1, 0), place);
        Check.due("judge 1 of " + java.util.Arrays.toString(deeds), x.judge(1, 1), why);
    }

    /** Promise 15. */
    private static void judge() {
        LateFalls x = Check.of("fall 2 3;thing 5 held 1;thing 6 on 1;thing 7 up 1 2 for 1;walker 1;");
        Check.noSuch("judge(4, 9)", () -> x.judge(4, 9));
        Check.noSuch("judge(-1, 0)", () -> x.judge(-1, 0));
        Check.badState("judge of a missing tray", () -> x.judge(0, 9));
        tell(x, 0, 1, 11, -1, 1001, 1000, 2000);
        Check.badArgument("judge(0, 4)", () -> x.judge(0, 4));
        Check.badArgument("judge(0, -1)", () -> x.judge(0, -1));
        // Thing 0 hangs for an hour on level 1 of column 1, then falls with thing 2: thing 1 lies below both.
        Check.due("judge(0, 0): one lies on it", x.judge(0, 0), 2);
        Check.due("judge(0, 1)", x.judge(0, 1), 3);
        Check.due("judge(0, 2): how many lie then", x.judge(0, 2), 3);
        Check.due("judge(0, 3)", x.judge(0, 3), 12);
        Check.due("nothing was done", x.count(8), 0);
        Check.due("no deed", x.count(9), 0);
        dueJudge(x, new long[] {}, -1, 0);
        dueJudge(x, new long[] {2, 1000, 2, -1, 2000}, -1, 0);
        dueJudge(x, new long[] {3}, 0, 1);
        dueJudge(x, new long[] {20}, 0, 1);
        dueJudge(x, new long[] {300}, 0, 1);
        dueJudge(x, new long[] {100}, 0, 2);
        dueJudge(x, new long[] {10}, 0, 3);
        dueJudge(x, new long[] {12}, 0, 3);
        dueJudge(x, new long[] {1000}, 0, 2);
        dueJudge(x, new long[] {1003}, 0, 1);
        dueJudge(x, new long[] {-1, -1, 1999}, 2, 1);
        dueJudge(x, new long[] {2001}, 0, 1);
        dueJudge(x, new long[] {-2}, 0, 1);
        dueJudge(x, new long[] {999}, 0, 1);
        dueJudge(x, new long[] {1L << 32}, 0, 1);
        dueJudge(x, new long[] {(1L << 32) + 2000}, 0, 1);
        dueJudge(x, new long[] {(1L << 32) + 1002}, 0, 1);
        dueJudge(x, new long[] {(1L << 32) - 1}, 0, 1);
        dueJudge(x, new long[] {Long.MIN_VALUE}, 0, 1);
    }

    /** Promise 16. */
    private static void perform() {
        LateFalls x = Check.of("fall 2 3;thing 5 held 1;thing 6 on 1;thing 7 up 1 2 for 1;walker 1;");
        Check.noSuch("perform(4)", () -> x.perform(4));
        Check.badState("perform of a missing tray", () -> x.perform(0));
        tell(x, 0, 1, 11, -1, 1001, 1000, 2000);
        Check.due("perform(0)", x.perform(0), 2);
        Check.due("each a deed", x.count(9), 2);
        Check.due("hurt", x.count(11), 12);
        Check.due("undo(1)", x.undo(1), 1);
        Check.due("one hour is undone", x.count(8), 0);
        Check.due("it hangs", x.thing(0, 1), 1);
        tell(x, 2, 0, -1, -1, -1, -1, -1, -1, -1, -1, -1, -1, -1, -1);
        Check.due("perform(2)", x.perform(2), 12);
        Check.due("ten at most", x.count(9), 10);
        Check.due("twelve hours", x.count(8), 12);
        tell(x, 3, 2);
        Check.due("perform of an empty tray", x.perform(3), 0);
        LateFalls y = Check.of("fall 1 1;thing 5 held 1;");
        tell(y, 0, 0, -1);
        Check.due("perform no more than is told", y.perform(0), 1);
        Check.due("it is held still", y.thing(0, 4), 2);
        y.tray(1, 3, 30);
        for (int i = 0; i < 30; i++) {
            y.write(1, i, i % 2 == 0 ? 0 : 1000);
        }
        Check.due("perform a full tray", y.perform(1), 30);
        Check.due("judge a full tray", y.judge(1, 0), LateFalls.NONE);
    }

    /** Promise 17: against the document's own words, a second time. */
    private static void season() {
        LateFalls x = Check.of("fall 2 3;thing 5 held 1;thing 6 on 1;thing 7 up 1 2 for 1;walker 1;");
        Check.badArgument("season(1, 0)", () -> x.season(1, 0));
        Check.badArgument("season(1, 31)", () -> x.season(1, 31));
        Check.badArgument("season(1, -1)", () -> x.season(1, -1));
        for (int seed = -40; seed < 40; seed++) {
            LateFalls told = Check.of("fall 2 3;thing 5 held 1;thing 6 on 1;thing 7 up 1 2 for 1;walker 1;");
            LateFalls drawn = Check.of("fall 2 3;thing 5 held 1;thing 6 on 1;thing 7 up 1 2 for 1;walker 1;");
            int[] s = {seed * 7919};
            int could = 0;
            for (int i = 0; i < 30; i++) {
                switch (draw(s) % 4) {
                    case 2: {
                        int t = draw(s) % 3;
                        int c = draw(s) % 2;
                        could += told.letGo(t, c, draw(s) % 3) >= 0 ? 1 : 0;
                        break;
                    }
                    case 3:
                        could += told.take(draw(s) % 3) >= 0 ? 1 : 0;
                        break;
                    default:
                        told.hours(1);
                        could++;
                        break;
                }
            }
            Check.due("season " + seed, drawn.season(seed * 7919, 30), could);
            for (int what = 0; what < 12; what++) {
                Check.due("count(" + what + ") of season " + seed, drawn.count(what), told.count(what));
            }
        }
        LateFalls none = new LateFalls();
        int[] s = {5};
        int hours = 0;
        for (int i = 0; i < 30; i++) {
            hours += draw(s) % 4 < 2 ? 1 : 0;
        }
        Check.due("season without things: hours alone", none.season(5, 30), hours);
        Check.due("the hour then", none.count(8), hours);
    }

    private static int draw(int[] x) {
        x[0] = 1103515245 * x[0] + 12345;
        return x[0] >>> 16;
    }
}
