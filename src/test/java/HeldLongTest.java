/** Promises 10, 16 to 22, 24 to 34, 39: without a law hangs one hangs as many hours as it was held, however many. */
public final class HeldLongTest {
    private static final int LATER = 940;

    public static void main(String[] args) {
        bounds();
        fallsToCome();
        itFallsThen();
        waits();
        places();
        both();
        toldDeeds();
        seasons();
        Check.end();
    }

    private static void pass(LateFalls x, int hours) {
        for (int left = hours; left > 0; left -= 99) {
            x.hours(Math.min(99, left));
        }
    }

    /** What the text tells, LATER hours later. */
    private static LateFalls later(String text) {
        LateFalls x = Check.of(text);
        pass(x, LATER);
        return x;
    }

    /** Thing 0 is held for 1039 hours, the walker is in column 0 in even hours. */
    private static LateFalls some() {
        return later("fall 2 4;thing 9 held 99;thing 5 held 0;walker 0 1;");
    }

    private static void dueLetGo(String law, int held, int due) {
        LateFalls x = Check.of("fall 1 1;thing 9 held 0;" + law);
        pass(x, held);
        Check.due("letGo of one held " + held + " hours, " + law, x.letGo(0, 0, 0), due);
    }

    /** The bounds are those of what the law tells. */
    private static void bounds() {
        dueLetGo("", 998, 998);
        dueLetGo("", 999, 999);
        dueLetGo("", 1000, 1000);
        dueLetGo("", 1001, 1001);
        dueLetGo("", 9900, 9900);
        dueLetGo("hangs:held;", 998, 998);
        dueLetGo("hangs:held;", 999, 999);
        dueLetGo("hangs:held;", 1000, 999);
        dueLetGo("hangs:held;", 9900, 999);
        dueLetGo("hangs:held-999-2;", 1000, 0);
        dueLetGo("hangs:held-999-2;", 1002, 1);
        dueLetGo("frees:1=2;", 1000, 1000);
    }

    private static void fallsToCome() {
        LateFalls x = some();
        Check.due("held so long", x.thing(0, 4), 1039);
        Check.due("letGo(0, 0, 3)", x.letGo(0, 0, 3), 1039);
        Check.due("it hangs still", x.thing(0, 5), 1039);
        Check.due("falls(0)", x.falls(0), 1039);
        Check.due("lands(0)", x.lands(0), 0);
        Check.due("next()", x.next(), 1039);
        Check.due("busiest()", x.busiest(), 1039);
        Check.due("fallIn(999)", x.fallIn(999), 0);
        Check.due("heightIn(0, 999)", x.heightIn(0, 999), 0);
        // It falls in hour 1979, an odd one: the walker is in column 1.
        Check.due("hurtIn(0)", x.hurtIn(0), LateFalls.NONE);
        Check.due("hurts(0)", x.hurts(0), 0);
        Check.due("spares(0, 0)", x.spares(0, 0), 0);
        Check.due("later(0, 1)", x.later(0, 1), 9);
        x.hours(40);
        Check.due("fallIn(999) 40 hours later", x.fallIn(999), 1);
        Check.due("heightIn(0, 998) 40 hours later", x.heightIn(0, 998), 0);
        Check.due("heightIn(0, 999) 40 hours later", x.heightIn(0, 999), 1);
    }

    private static void itFallsThen() {
        LateFalls x = some();
        x.letGo(0, 1, 3);
        pass(x, 1038);
        Check.due("it hangs an hour ahead", x.thing(0, 5), 1);
        Check.due("it falls in its hour", x.hours(1), 1);
        Check.due("on the walker", x.walker(0, 1), 9);
        Check.due("undone", x.undo(1), 9);
        Check.due("it hangs again", x.falls(0), 1);
    }

    private static void waits() {
        LateFalls x = some();
        Check.due("fallsBy(0, 0, 3, 0)", x.fallsBy(0, 0, 3, 0), 1039);
        Check.due("fallsBy(0, 0, 3, 10)", x.fallsBy(0, 0, 3, 10), 1059);
        Check.due("fallsBy(0, 0, 3, 60)", x.fallsBy(0, 0, 3, 60), 1159);
        Check.due("waitFor(0, 0, 3, 999)", x.waitFor(0, 0, 3, 999), LateFalls.NONE);
        Check.due("waitFor(1, 0, 3, 998)", x.waitFor(1, 0, 3, 998), 29);
        Check.due("fallsBy(1, 0, 3, 30)", x.fallsBy(1, 0, 3, 30), 1000);
        // By every wait it falls in an odd hour.
        Check.due("waitSafe(0, 0, 3)", x.waitSafe(0, 0, 3), 0);
        Check.due("waitSafe(0, 1, 3)", x.waitSafe(0, 1, 3), LateFalls.NONE);
        Check.due("waitHurt(0, 0, 3, 0)", x.waitHurt(0, 0, 3, 0), LateFalls.NONE);
        Check.due("waitHurt(0, 1, 3, 0)", x.waitHurt(0, 1, 3, 0), 0);
    }

    private static void places() {
        LateFalls x = later("fall 2 4;thing 9 held 99;thing 5 held 70;walker 0 1;");
        Check.due("letGo(1, 0, 3)", x.letGo(1, 0, 3), 1010);
        Check.due("soonest: set free in 1010 hours", x.place(0, false), 0);
        Check.due("latest: by itself in 1039", x.place(0, true), 10);
        Check.due("worst(0, 0): with the other one, in an even hour", x.worst(0, 0), 0);
        Check.due("worst(0, 1)", x.worst(0, 1), 14);
    }

    private static void both() {
        LateFalls x = later("fall 2 4;thing 9 held 98;thing 5 held 0;");
        Check.due("both(0, 1, 0, 1, 2, 0)", x.both(0, 1, 0, 1, 2, 0), 1038);
        Check.due("both(0, 1, 0, 1, 2, 1)", x.both(0, 1, 0, 1, 2, 1), 0);
        Check.due("both(0, 1, 0, 1, 2, 2)", x.both(0, 1, 0, 1, 2, 2), 49);
    }

    private static void toldDeeds() {
        LateFalls x = some();
        x.tray(0, 1, 2);
        x.write(0, 0, -1);
        x.write(0, 1, 13);
        Check.due("judge(0, 0)", x.judge(0, 0), LateFalls.NONE);
        Check.due("perform(0)", x.perform(0), 2);
        Check.due("it hangs as long as it was held then", x.falls(0), 1040);
    }

    private static void seasons() {
        int letGo = 0;
        for (int seed = 0; seed < 1 << 20 && letGo < 5; seed += 40503) {
            LateFalls x = some();
            x.season(seed, 1);
            for (int t = 0; t < 2; t++) {
                if (x.thing(t, 1) == 1) {
                    letGo++;
                    Check.due("let go by season " + seed, x.thing(t, 5), t == 0 ? 1039 : 940);
                }
            }
        }
        Check.due("some were let go", letGo > 1 ? 1 : 0, 1);
    }
}
