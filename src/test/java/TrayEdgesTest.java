/** Terms, 3, and promises 43 to 48: each sentence that names an edge of trays, images and counts. */
public final class TrayEdgesTest {
    private static final int NONE = LateFalls.NONE;
    private static final int MAX = Integer.MAX_VALUE;
    private static final int MIN = Integer.MIN_VALUE;

    public static void main(String[] args) {
        traysNoneToThree();
        sortsAndPlaces();
        placesOfATray();
        cutToItsSort();
        rowsOf0s();
        copyAsManyAsPlaces();
        copyWhatHangs();
        imagesNoneToTwo();
        allButTapeFaultTrays();
        asItWas();
        counts();
        Check.end();
    }

    private static long lay(LateFalls x, int tray, int sort, int many) {
        x.tray(tray, sort, many);
        return 0;
    }

    private static long image(LateFalls x, int i) {
        x.image(i);
        return 0;
    }

    private static long restore(LateFalls x, int i) {
        x.restore(i);
        return 0;
    }

    /** "TRAYS 0 to 3 are MISSING at first". */
    private static void traysNoneToThree() {
        LateFalls x = new LateFalls();
        int[] none = {-1, 4, MAX, MIN};
        for (int tray : none) {
            Check.noSuch("tray(" + tray + ", 0, 0)", () -> lay(x, tray, 0, 0));
            Check.noSuch("write(" + tray + ", 0, 0)", () -> x.write(tray, 0, 0));
            Check.noSuch("copy(" + tray + ")", () -> x.copy(tray));
            Check.noSuch("judge(" + tray + ", 0)", () -> x.judge(tray, 0));
            Check.noSuch("perform(" + tray + ")", () -> x.perform(tray));
        }
        for (int i = 0; i < 4; i++) {
            int tray = i;
            Check.badState("write to a missing " + i, () -> x.write(tray, 0, 0));
            Check.badState("copy to a missing " + i, () -> x.copy(tray));
            Check.badState("judge of a missing " + i, () -> x.judge(tray, 0));
            Check.badState("perform of a missing " + i, () -> x.perform(tray));
            lay(x, i, 0, 0);
            Check.badIndex("write to an empty " + i, () -> x.write(tray, 0, 0));
            Check.due("copy to an empty " + i, x.copy(i), 0);
            Check.due("judge of an empty " + i, x.judge(i, 0), NONE);
            Check.due("perform of an empty " + i, x.perform(i), 0);
        }
    }

    /** "rows of 0 to 30 numbers of 8 bits (sort 0), 16 (1), 32 (2), 64 (3)"; "no such sort, or not so many". */
    private static void sortsAndPlaces() {
        LateFalls x = new LateFalls();
        int[] wrong = {-1, 4, MAX, MIN};
        for (int sort : wrong) {
            Check.badArgument("tray(0, " + sort + ", 5)", () -> lay(x, 0, sort, 5));
        }
        int[] many = {-1, 31, MAX, MIN};
        for (int n : many) {
            for (int sort = 0; sort < 4; sort++) {
                int of = sort;
                Check.badArgument("tray(0, " + sort + ", " + n + ")", () -> lay(x, 0, of, n));
            }
        }
        Check.badState("it is missing still", () -> x.copy(0));
        for (int sort = 0; sort < 4; sort++) {
            lay(x, 0, sort, 0);
            lay(x, 0, sort, 1);
            Check.due("a row of one", x.write(0, 0, 5), 5);
            lay(x, 0, sort, 30);
            Check.due("a row of 30", x.write(0, 29, 5), 5);
        }
    }

    /** "IndexOutOfBoundsException: it has no such place". */
    private static void placesOfATray() {
        LateFalls x = new LateFalls();
        int[] sizes = {1, 2, 29, 30};
        for (int many : sizes) {
            lay(x, 2, 1, many);
            Check.due("the first of " + many, x.write(2, 0, 7), 7);
            Check.due("the last of " + many, x.write(2, many - 1, 8), 8);
            Check.badIndex("behind the last of " + many, () -> x.write(2, many, 9));
            Check.badIndex("ahead of the first of " + many, () -> x.write(2, -1, 9));
            Check.badIndex("MAX of " + many, () -> x.write(2, MAX, 9));
            Check.badIndex("MIN of " + many, () -> x.write(2, MIN, 9));
        }
    }

    /** "cut to its sort: as it is there". */
    private static void cutToItsSort() {
        LateFalls x = new LateFalls();
        for (int sort = 0; sort < 3; sort++) {
            lay(x, sort, sort, 2);
            long half = 1L << (8 << sort) - 1;
            long[] told = {half - 1, half, half + 1, 2 * half - 1, 2 * half, 2 * half + 1, -half, -half - 1, -2 * half,
                0, 1, -1, Long.MAX_VALUE, Long.MIN_VALUE};
            long[] due = {half - 1, -half, -half + 1, -1, 0, 1, -half, half - 1, 0, 0, 1, -1, -1, 0};
            for (int i = 0; i < told.length; i++) {
                Check.due("write " + told[i] + " in sort " + sort, x.write(sort, i % 2, told[i]), due[i]);
            }
        }
        lay(x, 3, 3, 1);
        long[] all = {Long.MAX_VALUE, Long.MIN_VALUE, 0, -1, 1L << 32, 1L << 31, -(1L << 33)};
        for (long v : all) {
            Check.due("write " + v + " in sort 3", x.write(3, 0, v), v);
        }
        // What is there is what is told: 256 * 4 - 1 in 8 bits is an hour, 2000 in 8 bits is -48.
        lay(x, 0, 0, 2);
        x.write(0, 0, 1023);
        x.write(0, 1, 2000);
        Check.due("judge(0, 0)", x.judge(0, 0), 1);
        lay(x, 0, 1, 2);
        x.write(0, 0, 65535);
        x.write(0, 1, 65536 + 2000);
        Check.due("judge(0, 0) in 16 bits", x.judge(0, 0), NONE);
    }

    /** "A TRAY is a row of so many 0s": also one that was another row. */
    private static void rowsOf0s() {
        LateFalls x = Check.of("fall 1 9;thing 1 held 5;");
        lay(x, 1, 2, 3);
        for (int i = 0; i < 3; i++) {
            x.write(1, i, -1);
        }
        Check.due("three hours", x.judge(1, 0), NONE);
        lay(x, 1, 2, 2);
        // Of two 0s the first lets thing 0 go, the second can't.
        Check.due("two 0s", x.judge(1, 0), 1);
        Check.due("why", x.judge(1, 1), 2);
        lay(x, 1, 2, 1);
        Check.due("one 0", x.judge(1, 0), NONE);
        lay(x, 1, 2, 3);
        Check.due("three 0s", x.judge(1, 0), 1);
        x.write(1, 1, -1);
        Check.due("the third is 0, too", x.judge(1, 0), 2);
        // On one level alone 0 can be told, and no other number below 800.
        LateFalls low = Check.of("fall 1 1;thing 1 held 5;");
        for (int sort = 0; sort < 4; sort++) {
            lay(low, 0, sort, 1);
            Check.due("a 0 of sort " + sort, low.judge(0, 1), 0);
        }
    }

    /** "from its first place on, as many as it has places: how many". */
    private static void copyAsManyAsPlaces() {
        String text = "fall 2 9;" + "thing 1 held 0;".repeat(7) + "thing 1 up 1 8 for 3;";
        for (int many = 0; many <= 10; many++) {
            LateFalls x = Check.of(text);
            lay(x, 0, 1, many);
            Check.due("copy to " + many + " places", x.copy(0), Math.min(8, many));
        }
        LateFalls none = new LateFalls();
        lay(none, 0, 1, 30);
        Check.due("copy of no things", none.copy(0), 0);
        // The places behind stay: a quake behind what was copied.
        LateFalls x = Check.of("fall 1 9;thing 1 up 0 8 for 99;thing 2 held 0;");
        lay(x, 0, 2, 3);
        x.write(0, 2, 2000);
        Check.due("copy to three places of two things", x.copy(0), 2);
        x.write(0, 0, -1);
        Check.due("NONE for thing 1, then the quake", x.perform(0), 3);
        Check.due("two hours", x.count(8), 2);
        Check.due("it fell", x.count(6), 1);
    }

    /** "In how many HOURS each THING falls (NONE: it doesn't HANG)", cut to the tray's sort. */
    private static void copyWhatHangs() {
        int[] hangs = {127, 128, 255, 256, 511, 999};
        int[] in8 = {127, -128, -1, 0, -1, -25};
        for (int i = 0; i < hangs.length; i++) {
            LateFalls x = Check.of("fall 6 9;thing 1 held 0;hangs:" + hangs[i] + ";");
            x.letGo(0, 5, 8);
            lay(x, 0, 0, 1);
            x.copy(0);
            // An hour can be, all others can't: no such thing, column or level, or it isn't held.
            Check.due("as cut to 8 bits " + in8[i], x.judge(0, 0), in8[i] == -1 ? NONE : 0);
            Check.due("why of " + in8[i], x.judge(0, 1), in8[i] == -1 ? 0 : in8[i] == 0 ? 2 : 1);
        }
        LateFalls set = Check.of("fall 2 9;thing 1 held 0;thing 2 up 0 8 for 3;thing 3 up 0 6 for 9;thing 4 on 1;");
        lay(set, 0, 3, 4);
        Check.due("copy", set.copy(0), 4);
        // NONE 3 3 NONE: an hour, thing 0 let go on level 3, and then not again.
        Check.due("the third can't be", set.judge(0, 0), 2);
        Check.due("since it isn't held", set.judge(0, 1), 2);
    }

    /** "IMAGES 0 to 2 .. (none at first)". */
    private static void imagesNoneToTwo() {
        LateFalls x = new LateFalls();
        int[] none = {-1, 3, MAX, MIN};
        for (int i : none) {
            Check.noSuch("image(" + i + ")", () -> image(x, i));
            Check.noSuch("restore(" + i + ")", () -> restore(x, i));
        }
        for (int i = 0; i < 3; i++) {
            int at = i;
            Check.badState("restore(" + i + ")", () -> restore(x, at));
            image(x, i);
            x.hours(i + 1);
        }
        for (int i = 2; i >= 0; i--) {
            restore(x, i);
            Check.due("the hour of image " + i, x.count(8), i * (i + 1) / 2);
            Check.due("its deeds", x.count(9), i);
        }
    }

    /** "all but the tape, the FAULT and TRAYS". */
    private static void allButTapeFaultTrays() {
        LateFalls x = Check.of("fall 2 3;thing 5 held 1;thing 6 up 1 2 for 3;walker 1 0;hangs:7;frees:1=2;hour 4;");
        x.hours(1);
        lay(x, 0, 3, 1);
        x.write(0, 0, 2000);
        image(x, 1);
        Check.tell(x, "fall 1 1;%");
        Check.tell(x, "fall 3 4;thing 1 on 0;walker 0;walker 1;");
        x.quake();
        x.quake();
        Check.tell(x, "fall 9 9;");
        Check.feed(x, "fall 1 1;");
        lay(x, 0, 0, 0);
        lay(x, 3, 1, 1);
        restore(x, 1);
        int[] due = {7, 2, 3, 2, 1, 1, 0, 1, 5, 1, 20, 0};
        for (int what = 0; what < due.length; what++) {
            Check.due("count(" + what + ") as in the image", x.count(what), due[what]);
        }
        Check.due("the law hangs", x.hanging(0, 0, 0, 3), 7);
        Check.due("the walker", x.walker(0, 2), 2);
        Check.due("fault(0) stays", x.fault(0), 3);
        Check.due("fault(1) stays", x.fault(1), 5);
        Check.badIndex("the tray stays", () -> x.write(0, 0, 1));
        Check.due("a tray made since stays", x.write(3, 0, 1), 1);
        Check.due("the tape stays as it was", x.district(9), 1);
        restore(x, 1);
        Check.due("undo(1)", x.undo(1), 0);
        Check.due("the hour then", x.count(8), 4);
        LateFalls missing = new LateFalls();
        lay(missing, 2, 0, 5);
        image(missing, 0);
        lay(missing, 1, 0, 5);
        restore(missing, 0);
        Check.due("a tray isn't missing again", missing.write(1, 4, 3), 3);
    }

    /** "All is as in an IMAGE": ten deeds, hurt, what hangs; the image stays as it was. */
    private static void asItWas() {
        LateFalls x = Check.of("fall 1 9;thing 5 held 1;thing 6 up 0 8 for 7;walker 0;");
        for (int i = 0; i < 12; i++) {
            x.hours(1);
        }
        x.letGo(0, 0, 5);
        image(x, 2);
        Check.due("undo(10)", x.undo(10), 0);
        Check.due("the hour", x.count(8), 3);
        Check.due("nobody is hurt", x.walker(0, 1), 0);
        for (int round = 0; round < 2; round++) {
            restore(x, 2);
            Check.due("the hour again", x.count(8), 12);
            Check.due("hurt again", x.walker(0, 1), 6);
            Check.due("ten deeds again", x.count(9), 10);
            Check.due("it hangs again", x.falls(0), 13);
            Check.due("undo(1)", x.undo(1), 9);
            Check.due("held again", x.thing(0, 4), 13);
            Check.due("undo(9)", x.undo(9), 0);
            Check.due("the hour of the eldest", x.count(8), 3);
            x.quake();
            x.hours(99);
        }
        restore(x, 2);
        x.hours(20);
        image(x, 2);
        x.undo(1);
        restore(x, 2);
        Check.due("an image made anew", x.count(8), 32);
    }

    /** "NONE for others". */
    private static void counts() {
        LateFalls x = Check.of("fall 6 9;thing 1 held 0;");
        int[] others = {-1, 12, 13, MAX, MIN};
        for (int what : others) {
            Check.due("count(" + what + ")", x.count(what), NONE);
        }
        int[] due = {2, 6, 9, 1, 1, 0, 0, 0, 0, 0, 0, 0};
        for (int what = 0; what < due.length; what++) {
            Check.due("count(" + what + ")", x.count(what), due[what]);
        }
        LateFalls eight = Check.of("fall 6 9;" + "thing 1 on 0;".repeat(8) + "walker 0;".repeat(4));
        Check.due("eight that lie", eight.count(6), 8);
        Check.due("four walkers", eight.count(7), 4);
    }
}
