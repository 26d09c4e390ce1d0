/** Promises 43 to 48: trays, images, counts. */
public final class TraysTest {
    public static void main(String[] args) {
        tray();
        write();
        copy();
        images();
        imagesOfDistricts();
        count();
        Check.end();
    }

    private static long lay(LateFalls x, int tray, int sort, int many) {
        x.tray(tray, sort, many);
        return 0;
    }

    /** Promise 43. */
    private static void tray() {
        LateFalls x = new LateFalls();
        Check.noSuch("tray(4, 9, 9)", () -> lay(x, 4, 9, 9));
        Check.noSuch("tray(-1, 0, 0)", () -> lay(x, -1, 0, 0));
        Check.badArgument("tray(0, 4, 0)", () -> lay(x, 0, 4, 0));
        Check.badArgument("tray(0, -1, 0)", () -> lay(x, 0, -1, 0));
        Check.badArgument("tray(0, 0, 31)", () -> lay(x, 0, 0, 31));
        Check.badArgument("tray(0, 0, -1)", () -> lay(x, 0, 0, -1));
        Check.badState("still missing", () -> x.copy(0));
        lay(x, 0, 3, 30);
        Check.due("a row of 30", x.write(0, 29, 2001), 2001);
        // A row of 0s tells a letting go of thing 0, of which there is none.
        Check.due("its first 0", x.judge(0, 0), 0);
        lay(x, 0, 3, 0);
        Check.due("a row of none", x.judge(0, 0), LateFalls.NONE);
        lay(x, 3, 0, 1);
        x.write(3, 0, -1);
        Check.due("an hour", x.judge(3, 0), LateFalls.NONE);
        lay(x, 3, 0, 1);
        Check.due("0 again", x.judge(3, 0), 0);
    }

    /** Promise 44. */
    private static void write() {
        LateFalls x = new LateFalls();
        Check.noSuch("write(4, 0, 0)", () -> x.write(4, 0, 0));
        Check.noSuch("write(-1, 99, 0)", () -> x.write(-1, 99, 0));
        Check.badState("write(0, 99, 0)", () -> x.write(0, 99, 0));
        long v = 0x123456789ABCDEF0L;
        long[] cut = {(byte) 0xF0, (short) 0xDEF0, (int) 0x9ABCDEF0L, v};
        for (int sort = 0; sort < 4; sort++) {
            lay(x, sort, sort, 3);
            Check.due("write, sort " + sort, x.write(sort, 2, v), cut[sort]);
            Check.due("write -1, sort " + sort, x.write(sort, 0, -1), -1);
            Check.due("write 127, sort " + sort, x.write(sort, 0, 127), 127);
        }
        Check.due("128 of 8 bits", x.write(0, 0, 128), -128);
        Check.due("32768 of 16 bits", x.write(1, 0, 32768), -32768);
        Check.due("2^31 of 32 bits", x.write(2, 0, 1L << 31), Integer.MIN_VALUE);
        Check.badIndex("write(0, 3, 0)", () -> x.write(0, 3, 0));
        Check.badIndex("write(0, -1, 0)", () -> x.write(0, -1, 0));
        lay(x, 0, 0, 0);
        Check.badIndex("write to a row of none", () -> x.write(0, 0, 0));
    }

    /** Promise 45; what came into a tray is seen by judging it as told deeds. */
    private static void copy() {
        LateFalls x = Check.of("fall 1 9;thing 5 held 0;thing 6 up 0 8 for 2;thing 7 on 0;hangs:999-level;frees:1=2;");
        Check.noSuch("copy(4)", () -> x.copy(4));
        Check.badState("copy(0)", () -> x.copy(0));
        lay(x, 0, 1, 5);
        for (int i = 0; i < 5; i++) {
            x.write(0, i, -1);
        }
        // NONE, 2, NONE: an hour, thing 0 let go on level 2 of column 0, an hour.
        Check.due("copy(0)", x.copy(0), 3);
        Check.due("all can be", x.judge(0, 0), LateFalls.NONE);
        Check.due("in four hours in all thing 1 falls", x.judge(0, 2), 2);
        Check.due("perform(0)", x.perform(0), 5);
        Check.due("thing 0 hangs", x.thing(0, 3), 2);
        Check.due("since an hour, by the law", x.thing(0, 5), 997 - 3);
        lay(x, 1, 0, 1);
        Check.due("copy(1), a place alone", x.copy(1), 1);
        // 994 cut to 8 bits is -30.
        Check.due("cut to its sort", x.judge(1, 1), 1);
        lay(x, 1, 0, 0);
        Check.due("copy to a row of none", x.copy(1), 0);
        LateFalls cut = Check.of("fall 1 9;thing 5 held 0;hangs:255;");
        lay(cut, 0, 0, 1);
        cut.letGo(0, 0, 8);
        cut.copy(0);
        Check.due("255 cut to 8 bits is -1, an hour", cut.perform(0), 1);
        Check.due("it passed", cut.count(8), 1);
    }

    private static long image(LateFalls x, int i) {
        x.image(i);
        return 0;
    }

    private static long restore(LateFalls x, int i) {
        x.restore(i);
        return 0;
    }

    /** Promises 46 and 47. */
    private static void images() {
        LateFalls x = Check.of("fall 1 3;thing 5 held 0;walker 0;");
        Check.noSuch("image(3)", () -> image(x, 3));
        Check.noSuch("image(-1)", () -> image(x, -1));
        Check.noSuch("restore(3)", () -> restore(x, 3));
        Check.noSuch("restore(-1)", () -> restore(x, -1));
        Check.badState("restore(2)", () -> restore(x, 2));
        x.hours(3);
        x.letGo(0, 0, 2);
        image(x, 0);
        x.hours(3);
        image(x, 2);
        lay(x, 0, 0, 1);
        Check.feed(x, "a");
        for (int i = 0; i < 11; i++) {
            x.hours(1);
        }
        restore(x, 0);
        Check.due("the hour", x.count(8), 3);
        Check.due("it hangs", x.thing(0, 5), 3);
        Check.due("nobody is hurt", x.count(11), 0);
        Check.due("two deeds", x.count(9), 2);
        Check.due("the tape is in no image", x.count(10), 20);
        Check.due("trays are in no image", x.write(0, 0, 5), 5);
        Check.due("undo(2)", x.undo(2), 0);
        Check.due("it is held", x.thing(0, 4), 0);
        x.hours(7);
        restore(x, 0);
        Check.due("an image stays as it was", x.thing(0, 5), 3);
        Check.due("its deeds too", x.undo(1), 1);
        Check.due("held for three hours", x.thing(0, 4), 3);
        restore(x, 2);
        Check.due("the other image", x.count(8), 6);
        Check.due("its hurt", x.walker(0, 1), 5);
        Check.due("its deeds", x.count(9), 3);
        image(x, 0);
        restore(x, 0);
        Check.due("made anew", x.count(8), 6);
        Check.badState("restore(1)", () -> restore(x, 1));
    }

    private static void imagesOfDistricts() {
        LateFalls x = Check.of("fall 2 3;thing 5 held 1;hangs:7;frees:1=2;hour 4;");
        image(x, 1);
        Check.tell(x, "fall 1 1;walker 0;");
        Check.due("another district", x.count(7), 1);
        restore(x, 1);
        int[] due = {5, 2, 3, 1, 1, 0, 0, 0, 4, 0, 0, 0};
        for (int what = 0; what < due.length; what++) {
            Check.due("count(" + what + ") as in the image", x.count(what), due[what]);
        }
        Check.due("its law", x.hanging(0, 0, 0, 0), 7);
        LateFalls y = new LateFalls();
        image(y, 0);
        Check.tell(y, "fall 3 3;thing 5 held 1;");
        restore(y, 0);
        Check.due("no things", y.count(3), 0);
        Check.due("no lines", y.count(0), 0);
    }

    /** Promise 48. */
    private static void count() {
        LateFalls x = Check.of("fall 3 4;thing 5 up 2 1 for 3;thing 2 up 0 3 for 2;thing 4 held 6;thing 7 on 1;"
                + "thing 1 on 1;thing 3 on 0;walker 0 1;walker 2;hour 10;");
        x.hours(3);
        Check.feed(x, "fall");
        int[] due = {10, 3, 4, 6, 1, 0, 5, 2, 13, 1, 20, 7};
        for (int what = 0; what < due.length; what++) {
            Check.due("count(" + what + ")", x.count(what), due[what]);
        }
        Check.due("count(12)", x.count(12), LateFalls.NONE);
        Check.due("count(-1)", x.count(-1), LateFalls.NONE);
        x.take(4);
        x.letGo(4, 0, 3);
        x.take(0);
        x.letGo(2, 1, 3);
        Check.due("those held", x.count(4), 1);
        Check.due("those that hang", x.count(5), 1);
        Check.due("those that lie", x.count(6), 4);
    }
}
