/** "Of several throws of a call that one comes that is told first. A call that throws changes nothing." */
public final class ThrowsTest {
    private static final int MAX = Integer.MAX_VALUE;
    private static final int MIN = Integer.MIN_VALUE;
    private static final String NO_SUCH = "NoSuchElementException";
    private static final String STATE = "IllegalStateException";
    private static final String ARGUMENT = "IllegalArgumentException";
    private static final String INDEX = "IndexOutOfBoundsException";

    interface On {
        long run(LateFalls x);
    }

    public static void main(String[] args) {
        theDistrict();
        deeds();
        fallsToCome();
        waits();
        both();
        waysBelow();
        whoLetGo();
        traysAndImages();
        refused();
        Check.end();
    }

    /** Things 0, 1 held, 2, 3 hanging, 4 lying; 3 columns, 4 levels, 2 walkers; tray 1 and image 1 are there. */
    private static LateFalls some() {
        LateFalls x = new LateFalls();
        Check.tell(x, "fall 3 4;thing 9 held 3;thing 8 held 0;thing 7 up 0 3 for 5;thing 6 up 1 2 for 9;thing 5 on 1;"
                + "walker 0 1;walker 2 0 1;hangs:held+level;frees:wa>wb;hour 20;");
        x.hours(2);
        x.image(1);
        x.letGo(1, 2, 3);
        x.hours(1);
        x.take(1);
        x.tray(1, 1, 4);
        x.write(1, 0, -1);
        x.write(1, 1, 22);
        x.write(1, 2, 2000);
        x.write(1, 3, 1004);
        Check.tell(x, "fall 1 1;hour 5 5;");
        Check.feed(x, "fall 2 2;hour 77;");
        return x;
    }

    /** All that can be seen of an object; it is spoilt by that. */
    private static String seen(LateFalls x) {
        StringBuilder all = new StringBuilder();
        all.append(x.fault(0)).append(' ').append(x.fault(1)).append(' ');
        for (int tray = 0; tray < 4; tray++) {
            for (int what = 0; what < 4; what++) {
                int row = tray;
                int asked = what;
                String thrown = Check.thrown(() -> x.judge(row, asked));
                all.append(thrown).append(thrown.equals("0") ? x.judge(tray, what) : 0).append(' ');
            }
        }
        scene(x, all);
        for (int left = x.count(9); left > 0; left--) {
            all.append(x.undo(1)).append(' ');
            scene(x, all);
        }
        for (int i = 0; i < 3; i++) {
            int image = i;
            all.append(Check.thrown(() -> restored(x, image))).append(' ');
            scene(x, all);
        }
        all.append(x.district(x.count(10))).append(' ');
        scene(x, all);
        return all.toString();
    }

    private static void scene(LateFalls x, StringBuilder all) {
        for (int what = 0; what < 12; what++) {
            all.append(x.count(what)).append(' ');
        }
        for (int t = 0; t < x.count(3); t++) {
            for (int what = 0; what < 6; what++) {
                all.append(x.thing(t, what)).append(' ');
            }
            all.append(x.falls(t)).append(' ');
        }
        for (int w = 0; w < x.count(7); w++) {
            for (int what = 0; what < 3; what++) {
                all.append(x.walker(w, what)).append(' ');
            }
        }
    }

    private static long restored(LateFalls x, int i) {
        x.restore(i);
        return 0;
    }

    private static long imaged(LateFalls x, int i) {
        x.image(i);
        return 0;
    }

    private static long laid(LateFalls x, int tray, int sort, int many) {
        x.tray(tray, sort, many);
        return 0;
    }

    private static void due(String name, String want, On call) {
        LateFalls x = some();
        Check.dueThrow(name, want, () -> call.run(x));
        String before = seen(some());
        String after = seen(x);
        Check.due(name + " changes nothing", after.equals(before) ? 1 : 0, 1);
    }

    /** For a number below its bounds and one above, and the farthest. */
    private static void dueBeyond(String name, String want, int least, int most, Of call) {
        int[] beyond = {least - 1, most + 1, MIN, MAX};
        for (int n : beyond) {
            due(name + " of " + n, want, x -> call.run(x, n));
        }
        LateFalls x = some();
        Check.dueThrow(name + " of " + least, "0", () -> call.run(x, least));
        LateFalls y = some();
        Check.dueThrow(name + " of " + most, "0", () -> call.run(y, most));
    }

    interface Of {
        long run(LateFalls x, int n);
    }

    private static void theDistrict() {
        dueBeyond("district", ARGUMENT, 0, 20, (x, n) -> x.district(n));
        dueBeyond("thing", NO_SUCH, 0, 4, (x, n) -> x.thing(n, 0));
        dueBeyond("thing, what", ARGUMENT, 0, 5, (x, n) -> x.thing(0, n));
        due("thing(5, 6)", NO_SUCH, x -> x.thing(5, 6));
        dueBeyond("walker", NO_SUCH, 0, 1, (x, n) -> x.walker(n, 0));
        dueBeyond("walker, what", ARGUMENT, 0, 2, (x, n) -> x.walker(0, n));
        due("walker(2, 3)", NO_SUCH, x -> x.walker(2, 3));
        dueBeyond("height", NO_SUCH, 0, 2, (x, n) -> x.height(n));
        dueBeyond("at, column", NO_SUCH, 0, 2, (x, n) -> x.at(n, 0));
        dueBeyond("at, level", NO_SUCH, 0, 3, (x, n) -> x.at(0, n));
        dueBeyond("hanging, thing", NO_SUCH, 0, 4, (x, n) -> x.hanging(n, 0, 0, 0));
        dueBeyond("hanging, column", NO_SUCH, 0, 2, (x, n) -> x.hanging(0, n, 0, 0));
        dueBeyond("hanging, level", NO_SUCH, 0, 3, (x, n) -> x.hanging(0, 0, n, 0));
        dueBeyond("hanging, held", ARGUMENT, 0, 999, (x, n) -> x.hanging(0, 0, 0, n));
        due("hanging(5, 0, 0, -1)", NO_SUCH, x -> x.hanging(5, 0, 0, -1));
        due("hanging(0, 3, 0, -1)", NO_SUCH, x -> x.hanging(0, 3, 0, -1));
        due("hanging(0, 0, 4, 1000)", NO_SUCH, x -> x.hanging(0, 0, 4, 1000));
    }

    private static void deeds() {
        dueBeyond("hours", ARGUMENT, 1, 99, (x, n) -> x.hours(n));
        dueBeyond("undo", ARGUMENT, 1, 4, (x, n) -> x.undo(n));
        due("undo(10)", ARGUMENT, x -> x.undo(10));
        due("undo(11)", ARGUMENT, x -> x.undo(11));
        dueBeyond("judge, what", ARGUMENT, 0, 3, (x, n) -> x.judge(1, n));
        due("judge(4, 4)", NO_SUCH, x -> x.judge(4, 4));
        due("judge(-1, -1)", NO_SUCH, x -> x.judge(-1, -1));
        due("judge(0, 0)", STATE, x -> x.judge(0, 0));
        due("judge(0, 4)", STATE, x -> x.judge(0, 4));
        due("judge(3, -1)", STATE, x -> x.judge(3, -1));
        due("perform(4)", NO_SUCH, x -> x.perform(4));
        due("perform(-1)", NO_SUCH, x -> x.perform(-1));
        due("perform(0)", STATE, x -> x.perform(0));
        due("perform(3)", STATE, x -> x.perform(3));
        dueBeyond("season", ARGUMENT, 1, 30, (x, n) -> x.season(5, n));
    }

    private static void fallsToCome() {
        dueBeyond("falls", NO_SUCH, 0, 4, (x, n) -> x.falls(n));
        dueBeyond("lands", NO_SUCH, 0, 4, (x, n) -> x.lands(n));
        dueBeyond("fallIn", ARGUMENT, 1, 999, (x, n) -> x.fallIn(n));
        dueBeyond("frees", STATE, 2, 3, (x, n) -> x.frees(Math.max(0, Math.min(4, n))));
        due("frees(-1)", NO_SUCH, x -> x.frees(-1));
        due("frees(5)", NO_SUCH, x -> x.frees(5));
        due("frees(MAX)", NO_SUCH, x -> x.frees(MAX));
        due("frees(MIN)", NO_SUCH, x -> x.frees(MIN));
        dueBeyond("heightIn", NO_SUCH, 0, 2, (x, n) -> x.heightIn(n, 0));
        dueBeyond("heightIn, n", ARGUMENT, 0, 999, (x, n) -> x.heightIn(0, n));
        due("heightIn(3, 1000)", NO_SUCH, x -> x.heightIn(3, 1000));
        due("heightIn(-1, -1)", NO_SUCH, x -> x.heightIn(-1, -1));
        dueBeyond("hurtIn", NO_SUCH, 0, 1, (x, n) -> x.hurtIn(n));
        dueBeyond("hurts", NO_SUCH, 0, 1, (x, n) -> x.hurts(n));
        dueBeyond("spares", NO_SUCH, 0, 1, (x, n) -> x.spares(n, 0));
        dueBeyond("spares, column", NO_SUCH, 0, 2, (x, n) -> x.spares(0, n));
    }

    /** A call of a wait with all its arguments but its thing and place. */
    interface Wait {
        long run(LateFalls x, int t, int c, int l, int last);
    }

    private static void dueWait(String name, int wrong, Wait call) {
        dueBeyond(name + ", column", NO_SUCH, 0, 2, (x, n) -> call.run(x, 0, n, 3, 0));
        dueBeyond(name + ", level", NO_SUCH, 0, 3, (x, n) -> call.run(x, 0, 0, n, 0));
        dueBeyond(name + ", thing, not held", STATE, 0, 1, (x, n) -> call.run(x, n < 0 || n > 4 ? 4 : n, 0, 0, 0));
        int[] things = {-1, 5, MAX, MIN};
        for (int t : things) {
            due(name + ", thing " + t, NO_SUCH, x -> call.run(x, t, 0, 0, 0));
            due(name + ", thing " + t + ", all wrong", NO_SUCH, x -> call.run(x, t, 3, 4, wrong));
        }
        due(name + ", it hangs, no such column", NO_SUCH, x -> call.run(x, 2, 3, 0, 0));
        due(name + ", it hangs, no such level", NO_SUCH, x -> call.run(x, 2, 0, 4, 0));
        due(name + ", it lies, no such level", NO_SUCH, x -> call.run(x, 4, 0, -1, wrong));
        due(name + ", it hangs", STATE, x -> call.run(x, 3, 0, 0, 0));
        due(name + ", it lies", STATE, x -> call.run(x, 4, 0, 0, 0));
    }

    private static void waits() {
        dueWait("fallsBy", 61, (x, t, c, l, last) -> x.fallsBy(t, c, l, last));
        dueBeyond("fallsBy, w", ARGUMENT, 0, 60, (x, n) -> x.fallsBy(0, 0, 0, n));
        due("fallsBy, it hangs, w 61", STATE, x -> x.fallsBy(2, 0, 0, 61));
        due("fallsBy, where one hangs, w 61", ARGUMENT, x -> x.fallsBy(0, 0, 3, 61));
        dueWait("waitFor", 1000, (x, t, c, l, last) -> x.waitFor(t, c, l, last));
        dueBeyond("waitFor, n", ARGUMENT, 0, 999, (x, n) -> x.waitFor(0, 0, 0, n));
        due("waitFor, it lies, n 1000", STATE, x -> x.waitFor(4, 0, 0, 1000));
        dueWait("waitSafe", 0, (x, t, c, l, last) -> x.waitSafe(t, c, l));
        dueWait("waitHurt", 2, (x, t, c, l, last) -> x.waitHurt(t, c, l, last));
        dueBeyond("waitHurt, walker", NO_SUCH, 0, 1, (x, n) -> x.waitHurt(0, 0, 0, n));
        due("waitHurt, it hangs, no such walker", NO_SUCH, x -> x.waitHurt(2, 0, 0, 2));
        dueBeyond("place, not held", STATE, 0, 1, (x, n) -> x.place(n < 0 || n > 4 ? 2 : n, true));
        dueBeyond("worst, not held", STATE, 0, 1, (x, n) -> x.worst(n < 0 || n > 4 ? 2 : n, 1));
        int[] things = {-1, 5, MAX, MIN};
        for (int t : things) {
            due("place(" + t + ", false)", NO_SUCH, x -> x.place(t, false));
            due("worst(" + t + ", 2)", NO_SUCH, x -> x.worst(t, 2));
        }
        due("place(4, false)", STATE, x -> x.place(4, false));
        due("worst(2, 2)", STATE, x -> x.worst(2, 2));
        due("worst(4, -1)", STATE, x -> x.worst(4, -1));
        dueBeyond("worst, what", ARGUMENT, 0, 1, (x, n) -> x.worst(0, n));
    }

    private static void both() {
        dueBeyond("both, what", ARGUMENT, 0, 2, (x, n) -> x.both(0, 1, 0, 1, 2, n));
        dueBeyond("both, level", NO_SUCH, 0, 3, (x, n) -> x.both(0, 1, 0, 1, n, 0));
        dueBeyond("both, first column", NO_SUCH, 0, 1, (x, n) -> x.both(0, 1, n < 0 || n > 1 ? 3 : n, 2, 2, 0));
        dueBeyond("both, second column", NO_SUCH, 1, 2, (x, n) -> x.both(0, 1, 0, n < 1 || n > 2 ? -1 : n, 2, 0));
        int[] things = {-1, 5, MAX, MIN};
        for (int t : things) {
            due("both, first " + t, NO_SUCH, x -> x.both(t, 1, 0, 1, 2, 0));
            due("both, second " + t, NO_SUCH, x -> x.both(0, t, 0, 1, 2, 0));
            due("both, all wrong " + t, NO_SUCH, x -> x.both(t, t, 3, 3, 4, 3));
        }
        due("both, not held, no such column", NO_SUCH, x -> x.both(2, 4, 0, 3, 2, 3));
        due("both, not held, no such first column", NO_SUCH, x -> x.both(2, 4, -1, 0, 2, 3));
        due("both, not held, no such level", NO_SUCH, x -> x.both(2, 2, 0, 0, 4, 3));
        due("both, first hangs", STATE, x -> x.both(2, 0, 0, 1, 2, 0));
        due("both, second hangs", STATE, x -> x.both(0, 2, 0, 1, 2, 0));
        due("both, first lies", STATE, x -> x.both(4, 0, 0, 1, 2, 0));
        due("both, second lies", STATE, x -> x.both(0, 4, 0, 1, 2, 0));
        due("both, one that hangs, one column, what 3", STATE, x -> x.both(2, 2, 0, 0, 2, 3));
        due("both one", ARGUMENT, x -> x.both(0, 0, 0, 1, 2, 0));
        due("both, one column", ARGUMENT, x -> x.both(0, 1, 1, 1, 2, 0));
        due("both one, one column, what 3", ARGUMENT, x -> x.both(1, 1, 1, 1, 2, 3));
    }

    private static void waysBelow() {
        dueBeyond("safeWay, from", NO_SUCH, 0, 2, (x, n) -> x.safeWay(n, 0, 0));
        dueBeyond("safeWay, to", NO_SUCH, 0, 2, (x, n) -> x.safeWay(0, n, 0));
        dueBeyond("safeWay, what", ARGUMENT, 10, 70, (x, n) -> x.safeWay(0, 1, n));
        dueBeyond("safeWay, what 0", ARGUMENT, 0, 0, (x, n) -> x.safeWay(0, 1, n));
        due("safeWay(3, 0, 9)", NO_SUCH, x -> x.safeWay(3, 0, 9));
        due("safeWay(0, -1, 71)", NO_SUCH, x -> x.safeWay(0, -1, 71));
        dueBeyond("safeWays, from", NO_SUCH, 0, 2, (x, n) -> x.safeWays(n, 0, 0));
        dueBeyond("safeWays, to", NO_SUCH, 0, 2, (x, n) -> x.safeWays(0, n, 0));
        dueBeyond("safeWays, n", ARGUMENT, 0, 20, (x, n) -> x.safeWays(0, 0, n));
        due("safeWays(3, 0, 21)", NO_SUCH, x -> x.safeWays(3, 0, 21));
        due("safeWays(0, 3, -1)", NO_SUCH, x -> x.safeWays(0, 3, -1));
        dueBeyond("safeIn, from", NO_SUCH, 0, 2, (x, n) -> x.safeIn(n, 0));
        dueBeyond("safeIn, n", ARGUMENT, 0, 60, (x, n) -> x.safeIn(0, n));
        due("safeIn(-1, 61)", NO_SUCH, x -> x.safeIn(-1, 61));
        due("safeIn(3, -1)", NO_SUCH, x -> x.safeIn(3, -1));
        dueBeyond("later", NO_SUCH, 0, 1, (x, n) -> x.later(n, 0));
        dueBeyond("later, n", ARGUMENT, 0, 8, (x, n) -> x.later(0, n));
        due("later(2, 9)", NO_SUCH, x -> x.later(2, 9));
        due("later(-1, -1)", NO_SUCH, x -> x.later(-1, -1));
    }

    private static void whoLetGo() {
        dueBeyond("letGoBy, column", NO_SUCH, 0, 2, (x, n) -> x.letGoBy(n, 0, 1));
        dueBeyond("letGoBy, level", NO_SUCH, 0, 3, (x, n) -> x.letGoBy(0, n, 1));
        dueBeyond("letGoBy, weight", ARGUMENT, 1, 99, (x, n) -> x.letGoBy(0, 0, n));
        due("letGoBy(3, 0, 0)", NO_SUCH, x -> x.letGoBy(3, 0, 0));
        due("letGoBy(0, -1, 100)", NO_SUCH, x -> x.letGoBy(0, -1, 100));
        dueBeyond("letGoAt, column", NO_SUCH, 0, 2, (x, n) -> x.letGoAt(n, 0, 1, 0));
        dueBeyond("letGoAt, level", NO_SUCH, 0, 3, (x, n) -> x.letGoAt(0, n, 1, 0));
        dueBeyond("letGoAt, weight", ARGUMENT, 1, 99, (x, n) -> x.letGoAt(0, 0, n, 0));
        due("letGoAt(0, 0, 1, -1)", ARGUMENT, x -> x.letGoAt(0, 0, 1, -1));
        due("letGoAt(0, 0, 1, MIN)", ARGUMENT, x -> x.letGoAt(0, 0, 1, MIN));
        due("letGoAt(3, 0, 0, -1)", NO_SUCH, x -> x.letGoAt(3, 0, 0, -1));
        due("letGoAt(0, 4, 1, -1)", NO_SUCH, x -> x.letGoAt(0, 4, 1, -1));
        dueBeyond("levels, column", NO_SUCH, 0, 2, (x, n) -> x.levels(n, 1, 0, 0));
        dueBeyond("levels, weight", ARGUMENT, 1, 99, (x, n) -> x.levels(0, n, 0, 0));
        dueBeyond("levels, ago, in hour 23", ARGUMENT, 0, 23, (x, n) -> x.levels(0, 1, n, 0));
        dueBeyond("levels, held", ARGUMENT, 0, 60, (x, n) -> x.levels(0, 1, 0, n));
        due("levels(3, 0, 24, 61)", NO_SUCH, x -> x.levels(3, 0, 24, 61));
        due("levels(-1, 1, 0, 0)", NO_SUCH, x -> x.levels(-1, 1, 0, 0));
    }

    private static void traysAndImages() {
        dueBeyond("tray", NO_SUCH, 0, 3, (x, n) -> laid(x, n, 0, 0));
        dueBeyond("tray, sort", ARGUMENT, 0, 3, (x, n) -> laid(x, 1, n, 5));
        dueBeyond("tray, many", ARGUMENT, 0, 30, (x, n) -> laid(x, 1, 2, n));
        dueBeyond("tray that is missing, many", ARGUMENT, 0, 30, (x, n) -> laid(x, 0, 2, n));
        due("tray(4, 4, 31)", NO_SUCH, x -> laid(x, 4, 4, 31));
        due("tray(-1, -1, -1)", NO_SUCH, x -> laid(x, -1, -1, -1));
        dueBeyond("write, place", INDEX, 0, 3, (x, n) -> x.write(1, n, 2000));
        due("write(4, 0, 0)", NO_SUCH, x -> x.write(4, 0, 0));
        due("write(-1, 99, 0)", NO_SUCH, x -> x.write(-1, 99, 0));
        due("write(0, 0, 0)", STATE, x -> x.write(0, 0, 0));
        due("write(3, -1, 0)", STATE, x -> x.write(3, -1, 0));
        due("copy(4)", NO_SUCH, x -> x.copy(4));
        due("copy(-1)", NO_SUCH, x -> x.copy(-1));
        due("copy(0)", STATE, x -> x.copy(0));
        due("copy(3)", STATE, x -> x.copy(3));
        dueBeyond("image", NO_SUCH, 0, 2, (x, n) -> imaged(x, n));
        dueBeyond("restore", NO_SUCH, 1, 1, (x, n) -> restored(x, n < 1 ? -1 : n > 1 ? 3 : n));
        due("restore(0)", STATE, x -> restored(x, 0));
        due("restore(2)", STATE, x -> restored(x, 2));
        due("restore(3)", NO_SUCH, x -> restored(x, 3));
        due("restore(MAX)", NO_SUCH, x -> restored(x, MAX));
        due("restore(MIN)", NO_SUCH, x -> restored(x, MIN));
    }

    private static void dueRefused(String name, long want, On call) {
        LateFalls x = some();
        Check.due(name, call.run(x), want);
        Check.due(name + " changes nothing", seen(x).equals(seen(some())) ? 1 : 0, 1);
    }

    /** What is refused by its answer changes nothing either. */
    private static void refused() {
        int[] far = {-1, MIN, MAX};
        for (int n : far) {
            dueRefused("letGo(" + n + ", 0, 0)", -1, x -> x.letGo(n, 0, 0));
            dueRefused("letGo(0, " + n + ", 0)", -1, x -> x.letGo(0, n, 0));
            dueRefused("letGo(0, 0, " + n + ")", -1, x -> x.letGo(0, 0, n));
            dueRefused("take(" + n + ")", -1, x -> x.take(n));
            dueRefused("fault(" + n + ")", -1, x -> x.fault(n));
            dueRefused("count(" + n + ")", -1, x -> x.count(n));
        }
        dueRefused("letGo(5, 0, 0)", -1, x -> x.letGo(5, 0, 0));
        dueRefused("letGo(2, 0, 0)", -2, x -> x.letGo(2, 0, 0));
        dueRefused("letGo(4, 0, 0)", -2, x -> x.letGo(4, 0, 0));
        dueRefused("letGo(0, 0, 3), one hangs there", -3, x -> x.letGo(0, 0, 3));
        dueRefused("letGo(0, 1, 0), one lies there", -3, x -> x.letGo(0, 1, 0));
        dueRefused("take(5)", -1, x -> x.take(5));
        dueRefused("take(0)", -2, x -> x.take(0));
        dueRefused("perform of what can't be", 0, x -> {
            x.write(1, 0, 800);
            int done = x.perform(1);
            x.write(1, 0, -1);
            return done;
        });
        LateFalls full = new LateFalls();
        for (int i = 0; i < 45; i++) {
            full.feed(0x66616C6C, 0x20312031, 0x3B202020, 0x20202020, 0x20202020);
        }
        Check.due("feed beyond 900", full.feed(1, 2, 3, 4, 5), -1);
        Check.due("the tape is as it was", full.district(20), 1);
    }
}
