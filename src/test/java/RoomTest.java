import java.lang.management.ManagementFactory;

/** All calls of a run live in one room: calls make next to nothing, an object little. */
public final class RoomTest {
    private static final com.sun.management.ThreadMXBean THREADS =
            (com.sun.management.ThreadMXBean) ManagementFactory.getThreadMXBean();
    private static final String TEXT = "fall 6 9;thing 5 held 3;thing 2 up 0 8 for 99;thing 4 up 0 7 for 98;"
            + "thing 7 up 0 6 for 97;thing 1 up 0 5 for 96;thing 3 held 1;thing 8 on 2;thing 9 on 2;walker 0 1;walker 2;"
            + "walker 3 4 5;walker 0;frees:wa>99 or not[wb<99*(la+lb)];hangs:held*(level+1)+weight-lying;hour 90;";

    public static void main(String[] args) {
        askAll(Check.of(TEXT));
        LateFalls x = Check.of(TEXT);
        for (int i = 0; i < 3; i++) {
            x.image(i);
        }
        long start = allocated();
        for (int i = 0; i < 12; i++) {
            askAll(x);
        }
        dueAtMost("12 times all calls that ask or do", allocated() - start, 4096);
        start = allocated();
        LateFalls y = new LateFalls();
        dueAtMost("a new object", allocated() - start, 40000);
        start = allocated();
        Check.tell(y, TEXT);
        dueAtMost("a district", allocated() - start, 12000);
        start = allocated();
        for (int i = 0; i < 200; i++) {
            y.image(i % 3);
            y.restore(i % 3);
        }
        dueAtMost("images, again and again", allocated() - start, 20000);
        Check.end();
    }

    private static long allocated() {
        return THREADS.getThreadAllocatedBytes(Thread.currentThread().getId());
    }

    private static void dueAtMost(String what, long bytes, long most) {
        Check.due(what + " made " + bytes + " bytes, at most " + most, bytes > most ? 1 : 0, 0);
    }

    private static void askAll(LateFalls x) {
        x.image(0);
        x.letGo(0, 1, 8);
        x.hours(1);
        x.take(0);
        x.quake();
        x.undo(4);
        tell(x);
        x.judge(0, 3);
        x.perform(0);
        x.season(7, 30);
        x.copy(0);
        x.restore(0);
        askOfFalls(x);
        askOfWaits(x);
        askOfWays(x);
        x.letGoBy(0, 8, 9);
        x.letGoAt(0, 8, 9, 10000);
        x.levels(0, 9, 60, 60);
    }

    private static void tell(LateFalls x) {
        x.tray(0, 1, 30);
        for (int i = 0; i < 30; i++) {
            x.write(0, i, i % 2 == 0 ? 38 : 1000);
        }
    }

    private static void askOfFalls(LateFalls x) {
        x.falls(1);
        x.lands(1);
        x.fallIn(99);
        x.next();
        x.busiest();
        x.frees(1);
        x.heightIn(0, 999);
        x.hurtIn(0);
        x.hurts(0);
        x.spares(0, 0);
        x.count(11);
        x.at(0, 8);
        x.height(2);
        x.thing(1, 5);
        x.walker(2, 0);
        x.hanging(0, 2, 2, 999);
    }

    private static void askOfWaits(LateFalls x) {
        x.fallsBy(0, 0, 0, 60);
        x.waitFor(0, 0, 0, 998);
        x.waitSafe(0, 2, 8);
        x.waitHurt(0, 2, 8, 0);
        x.place(0, true);
        x.worst(0, 1);
        x.both(0, 5, 0, 1, 4, 0);
    }

    private static void askOfWays(LateFalls x) {
        x.safeWay(0, 5, 70);
        x.safeWays(0, 5, 20);
        x.safeIn(0, 60);
        x.shelter();
        x.later(0, 8);
    }
}
