/** Terms, 1, and promises 1 to 4: each sentence that names an edge of the text, on both sides of it. */
public final class TextEdgesTest {
    private static final int NONE = LateFalls.NONE;

    public static void main(String[] args) {
        withoutAText();
        tapeOf900Bytes();
        textOf900Bytes();
        someOfTheTape();
        numbersWithinBounds();
        leastAndMostTold();
        columnsOfAWalker();
        thingsAndWalkers();
        hangingPlaces();
        lyingPlaces();
        laterOnesStrike();
        blanksAndSigns();
        wordsAsLongAsTheyGo();
        digits();
        theEnd();
        fallFirstAndOnce();
        cutAtEachToken();
        bytesBehind();
        toldAnew();
        wordsOfTheLaws();
        sixWithinOneAnother();
        theLeastKind();
        theFirstAlongTheText();
        allStaysAtAFault();
        latestDistrict();
        Check.end();
    }

    private static void dueFits(String text) {
        LateFalls x = new LateFalls();
        int lines = Check.tell(x, text);
        Check.due("district of " + text + ", told without a fault", lines > 0 ? 1 : lines, 1);
        Check.due("fault(0) of " + text, x.fault(0), 0);
        Check.due("fault(1) of " + text, x.fault(1), NONE);
    }

    /** A number between head and tail fits from least to most; beyond it is FAULT 3, with four digits FAULT 1. */
    private static void dueWithin(String head, int least, int most, String tail) {
        dueFits(head + least + tail);
        dueFits(head + most + tail);
        if (least > 0) {
            Check.dueFault(head + (least - 1) + tail, 3, head.length());
        }
        Check.dueFault(head + (most + 1) + tail, most < 999 ? 3 : 1, head.length());
    }

    /** "without one: 1 COLUMN, 1 LEVEL, no THINGS, no WALKERS"; "an empty tape"; "TRAYS are MISSING". */
    private static void withoutAText() {
        LateFalls x = new LateFalls();
        Check.due("height(0)", x.height(0), 0);
        Check.noSuch("height(1)", () -> x.height(1));
        Check.due("at(0, 0)", x.at(0, 0), NONE);
        Check.noSuch("at(0, 1)", () -> x.at(0, 1));
        Check.noSuch("thing(0, 0)", () -> x.thing(0, 0));
        Check.noSuch("walker(0, 0)", () -> x.walker(0, 0));
        Check.due("letGo(0, 0, 0)", x.letGo(0, 0, 0), -1);
        Check.due("take(0)", x.take(0), -1);
        Check.due("next()", x.next(), NONE);
        Check.due("busiest()", x.busiest(), NONE);
        Check.due("fallIn(1)", x.fallIn(1), 0);
        Check.due("shelter()", x.shelter(), 0);
        Check.due("safeIn(0, 60)", x.safeIn(0, 60), 1);
        Check.due("letGoBy(0, 0, 1)", x.letGoBy(0, 0, 1), 1);
        Check.badArgument("district(1)", () -> x.district(1));
        for (int i = 0; i < 4; i++) {
            int tray = i;
            Check.badState("judge(" + i + ", 0)", () -> x.judge(tray, 0));
            Check.badState("perform(" + i + ")", () -> x.perform(tray));
            Check.badState("write(" + i + ", 0, 0)", () -> x.write(tray, 0, 0));
        }
        Check.due("quake()", x.quake(), 0);
        Check.due("hours(99)", x.hours(99), 0);
    }

    /** "NONE, and nothing changes, if there would be more than 900." */
    private static void tapeOf900Bytes() {
        LateFalls x = new LateFalls();
        Check.feed(x, textOf(880));
        Check.due("880 bytes", x.count(10), 880);
        Check.due("feed up to 900", x.feed(0x20202020, 0x20202020, 0x20202020, 0x20202020, 0x20202020), 900);
        Check.due("feed beyond", x.feed(-1, -1, -1, -1, -1), NONE);
        Check.due("feed beyond again", x.feed(0, 0, 0, 0, 0), NONE);
        Check.due("900 bytes", x.count(10), 900);
        Check.due("what was there is there", x.district(900), 2);
        Check.due("feed to an empty tape", x.feed(0, 0, 0, 0, 0), 20);
    }

    /** A district of two lines and blanks. */
    private static String textOf(int bytes) {
        StringBuilder text = new StringBuilder("fall 2 3;");
        while (text.length() < bytes - 7) {
            text.append(' ');
        }
        return text.append("hour 5;").toString();
    }

    /** "a TEXT of at most 900 bytes". */
    private static void textOf900Bytes() {
        LateFalls x = new LateFalls();
        Check.due("899 bytes", Check.tell(x, textOf(899)), 2);
        Check.due("900 bytes", Check.tell(x, textOf(900)), 2);
        Check.due("its last line", x.count(8), 5);
        StringBuilder signs = new StringBuilder("fall 1 1;hangs:1");
        while (signs.length() < 899) {
            signs.append("+0");
        }
        Check.due("a law of 900 bytes", Check.tell(x, signs.substring(0, 898) + " ;"), 2);
        Check.dueFault(signs.substring(0, 898) + "+;", 2, 899);
        Check.dueFault(signs.substring(0, 898) + "  ", 2, 900);
        Check.dueFault(signs.substring(0, 898) + " %", 1, 899);
        StringBuilder lines = new StringBuilder("fall 1 1;");
        while (lines.length() < 898) {
            lines.append("hour 1;");
        }
        Check.due("128 lines", Check.tell(x, lines.toString()), 128);
        Check.due("count(0)", x.count(0), 128);
    }

    /** "The first n bytes of the tape (which is empty then)"; "n is below 0 or above what it has". */
    private static void someOfTheTape() {
        LateFalls x = new LateFalls();
        Check.due("district(0) of an empty tape", x.district(0), -12);
        Check.due("its place", x.fault(1), 0);
        Check.badArgument("district(1) of an empty tape", () -> x.district(1));
        Check.badArgument("district(-1)", () -> x.district(-1));
        Check.feed(x, "fall 2 3;hour 5;%%%%");
        Check.badArgument("district(21)", () -> x.district(21));
        Check.badArgument("district(MAX)", () -> x.district(Integer.MAX_VALUE));
        Check.badArgument("district(MIN)", () -> x.district(Integer.MIN_VALUE));
        Check.due("the tape is as it was", x.count(10), 20);
        Check.due("district(16), up to the signs", x.district(16), 2);
        Check.due("the tape is empty", x.count(10), 0);
        Check.badArgument("district(16) again", () -> x.district(16));
        Check.feed(x, "fall 2 3;hour 5;%%%%");
        Check.due("district(17), with a sign", x.district(17), -11);
        Check.feed(x, "fall 2 3;hour 5;%%%%");
        Check.due("district(20), all of it", x.district(20), -11);
        Check.feed(x, "fall 2 3;hour 5;%%%%");
        Check.due("district(9), the first line", x.district(9), 1);
        Check.feed(x, "fall 2 3;hour 5;%%%%");
        Check.due("district(15), ahead of the last ;", x.district(15), -12);
        Check.due("its place is the text's length", x.fault(1), 15);
    }

    private static void numbersWithinBounds() {
        dueWithin("fall ", 1, 6, " 1;");
        dueWithin("fall 1 ", 1, 9, ";");
        dueWithin("fall 6 9;thing ", 1, 99, " held 0;");
        dueWithin("fall 6 9;thing 1 held ", 0, 99, ";");
        dueWithin("fall 6 9;thing 1 up ", 0, 5, " 0 for 1;");
        dueWithin("fall 3 9;thing 1 up ", 0, 2, " 0 for 1;");
        dueWithin("fall 6 9;thing 1 up 0 ", 0, 8, " for 1;");
        dueWithin("fall 6 2;thing 1 up 5 ", 0, 1, " for 1;");
        dueWithin("fall 6 9;thing 1 up 5 8 for ", 1, 99, ";");
        dueWithin("fall 6 9;thing 1 on ", 0, 5, ";");
        dueWithin("fall 1 9;thing 1 on ", 0, 0, ";");
        dueWithin("fall 6 9;walker ", 0, 5, ";");
        dueWithin("fall 2 9;walker 0 1 0 ", 0, 1, " 0;");
        dueWithin("fall 2 9;walker 0 1 0 1 0 1 0 ", 0, 1, ";");
        dueWithin("fall 1 1;hour ", 0, 999, ";");
        dueWithin("fall 1 1;hangs:", 0, 999, ";");
        dueWithin("fall 1 1;frees:1=", 0, 999, ";");
    }

    private static void leastAndMostTold() {
        LateFalls most = Check.of("fall 6 9;thing 99 held 99;thing 99 up 5 8 for 99;thing 99 on 5;walker 5;hour 999;");
        int[] counts = {6, 6, 9, 3, 1, 1, 1, 1, 999, 0, 0, 0};
        for (int what = 0; what < counts.length; what++) {
            Check.due("count(" + what + ") of the most", most.count(what), counts[what]);
        }
        int[][] things = {{99, 0, -1, -1, 99, -1}, {99, 1, 5, 8, -1, 99}, {99, 2, 5, 0, -1, -1}};
        for (int t = 0; t < 3; t++) {
            for (int what = 0; what < 6; what++) {
                Check.due("thing(" + t + ", " + what + ") of the most", most.thing(t, what), things[t][what]);
            }
        }
        Check.due("walker(0, 0) of the most", most.walker(0, 0), 5);
        Check.due("at(5, 8)", most.at(5, 8), 1);
        LateFalls least = Check.of("fall 1 1;thing 1 held 0;thing 1 up 0 0 for 1;walker 0;hour 0;");
        int[] few = {5, 1, 1, 2, 1, 1, 0, 1, 0, 0, 0, 0};
        for (int what = 0; what < few.length; what++) {
            Check.due("count(" + what + ") of the least", least.count(what), few[what]);
        }
        Check.due("held for 0 hours", least.thing(0, 4), 0);
        Check.due("hangs for an hour", least.thing(1, 5), 1);
        Check.due("hour 0 without a line", Check.of("fall 1 1;").count(8), 0);
    }

    /** "COLUMNS where it is, one for each HOUR, round and round, 1 to 8". */
    private static void columnsOfAWalker() {
        Check.dueFault("fall 2 2;walker;", 2, 15);
        Check.dueFault("fall 2 2;walker", 2, 15);
        StringBuilder line = new StringBuilder("fall 2 2;walker");
        for (int many = 1; many <= 8; many++) {
            line.append(" 1");
            LateFalls x = Check.of(line + ";");
            Check.due("columns told", x.walker(0, 2), many);
        }
        Check.dueFault(line + " 1;", 2, line.length() + 1);
        Check.dueFault(line + " 2;", 2, line.length() + 1);
        Check.dueFault(line + " 1 1;", 2, line.length() + 1);
        LateFalls x = Check.of("fall 6 1;walker 0 1 2 3 4 5 4 3;walker 5 0 2;hour 998;");
        // 998 is 6 modulo 8, and 2 modulo 3.
        int[] first = {4, 3, 0, 1, 2, 3, 4, 5, 4, 3, 0};
        int[] second = {2, 5, 0, 2, 5, 0, 2, 5, 0, 2, 5};
        for (int n = 0; n < first.length; n++) {
            Check.due("walker 0 in hour " + (998 + n), x.walker(0, 0), first[n]);
            Check.due("walker 1 in hour " + (998 + n), x.walker(1, 0), second[n]);
            x.hours(1);
        }
    }

    /** "numbered from 0 on, 8 at most"; "4 at most"; "4 the first TOKEN of a 9th thing, a 5th walker". */
    private static void thingsAndWalkers() {
        String[] hows = {"held 3;", "up 0 8 for 9;", "on 1;"};
        for (String how : hows) {
            StringBuilder text = new StringBuilder("fall 6 9;");
            for (int t = 0; t < 8; t++) {
                dueFits(text.toString());
                text.append("thing ").append(t + 1).append(t == 0 ? " " + how : " held 0;");
            }
            LateFalls x = Check.of(text + " walker 0;hour 5;");
            Check.due("eight things", x.count(3), 8);
            for (int t = 0; t < 8; t++) {
                Check.due("weight of thing " + t, x.thing(t, 0), t + 1);
            }
            Check.noSuch("thing(8, 0)", () -> x.thing(8, 0));
            Check.dueFault(text + " thing 1 held 0;", 4, text.length() + 1);
            Check.dueFault(text + "thing", 4, text.length());
            Check.dueFault(text + "thing 1000;", 4, text.length());
            Check.dueFault(text + "hour 5;thing 1 held 0;", 4, text.length() + 7);
            Check.dueFault(text + "hour thing 1 held 0;", 2, text.length() + 5);
        }
        StringBuilder text = new StringBuilder("fall 6 9;");
        for (int w = 0; w < 4; w++) {
            dueFits(text.toString());
            text.append("walker ").append(w + 1).append(";");
        }
        LateFalls x = Check.of(text + "thing 1 held 0;");
        Check.due("four walkers", x.count(7), 4);
        for (int w = 0; w < 4; w++) {
            Check.due("column of walker " + w, x.walker(w, 0), w + 1);
        }
        Check.noSuch("walker(4, 0)", () -> x.walker(4, 0));
        Check.dueFault(text + " walker 0;", 4, text.length() + 1);
        Check.dueFault(text + "walker", 4, text.length());
        Check.dueFault(text + "walker 9;", 4, text.length());
    }

    /** "a LEVEL on which one HANGS in that COLUMN; a LEVEL that isn't above all that LIE there". */
    private static void hangingPlaces() {
        String hung = "fall 2 4;thing 1 up 1 2 for 1;thing 2 up ";
        dueFits(hung + "1 1 for 1;");
        Check.dueFault(hung + "1 2 for 1;", 3, 43);
        dueFits(hung + "1 3 for 1;");
        dueFits(hung + "0 2 for 1;");
        String lie = "fall 2 4;thing 1 on 1;thing 1 on 1;thing 2 up ";
        Check.dueFault(lie + "1 0 for 1;", 3, 48);
        Check.dueFault(lie + "1 1 for 1;", 3, 48);
        dueFits(lie + "1 2 for 1;");
        dueFits(lie + "1 3 for 1;");
        dueFits(lie + "0 0 for 1;");
        dueFits("fall 1 4;thing 1 held 2;thing 2 up 0 0 for 1;");
    }

    /** "or LIES in a COLUMN, on those told ahead that LIE there"; "a COLUMN whose lowest free LEVEL is none, or ..". */
    private static void lyingPlaces() {
        LateFalls x = Check.of("fall 2 3;thing 1 on 1;thing 2 on 0;thing 3 on 1;thing 4 on 1;thing 5 on 0;");
        int[][] places = {{1, 0}, {0, 0}, {1, 1}, {1, 2}, {0, 1}};
        for (int t = 0; t < 5; t++) {
            Check.due("column of thing " + t, x.thing(t, 2), places[t][0]);
            Check.due("level of thing " + t, x.thing(t, 3), places[t][1]);
        }
        String full = "fall 2 2;thing 1 on 1;thing 1 on 1;thing 1 on ";
        Check.dueFault(full + "1;", 3, 46);
        dueFits(full + "0;");
        String hung = "fall 2 3;thing 1 up 1 1 for 1;thing 1 on 1;thing 1 on ";
        Check.dueFault(hung + "1;", 3, 54);
        dueFits(hung + "0;");
        Check.dueFault("fall 1 1;thing 1 up 0 0 for 1;thing 1 on 0;", 3, 41);
        dueFits("fall 1 1;thing 1 on 0;");
        Check.dueFault("fall 1 1;thing 1 on 0;thing 1 on 0;", 3, 33);
        dueFits("fall 1 3;thing 1 up 0 2 for 1;thing 1 on 0;thing 1 on 0;");
        Check.dueFault("fall 1 3;thing 1 up 0 2 for 1;thing 1 on 0;thing 1 on 0;thing 1 on 0;", 3, 67);
    }

    /** "Later ones of hangs, frees, hour strike." */
    private static void laterOnesStrike() {
        LateFalls x = Check.of("fall 1 9;hour 900;frees:1=1;hangs:7;thing 1 held 4;thing 2 up 0 8 for 5;"
                + "thing 3 up 0 6 for 9;hour 30;frees:wa=99;hangs:held+hour;");
        Check.due("lines", x.count(0), 10);
        Check.due("the later hour", x.count(8), 30);
        Check.due("held as told, from the later hour on", x.thing(0, 4), 4);
        Check.due("hangs as told, from the later hour on", x.thing(1, 5), 5);
        Check.due("the later law hangs", x.letGo(0, 0, 7), 4 + 6);
        Check.due("the later law frees", x.frees(1), 0);
        LateFalls y = Check.of("fall 1 9;frees:1=2;frees:1=1;thing 2 up 0 8 for 5;thing 3 up 0 6 for 9;");
        Check.due("the later law frees all", y.frees(0), 2);
    }

    /** "between them blanks (10, 32)"; "the signs ; : + - * ( ) [ ] = < >". */
    private static void blanksAndSigns() {
        String open = "fall 1 1;hangs:1;frees:1=1;";
        int[] firsts = new int[256];
        for (char c : "abcdefghijklmnopqrstuvwxyz;:+-*()[]=<>0123456789".toCharArray()) {
            firsts[c] = 2;
        }
        for (int c = 0; c < 256; c++) {
            // A lone letter, digit or sign is a token that can't stand where a line begins.
            if (c == 10 || c == 32) {
                dueFits(open + (char) c);
                dueFits((char) c + open);
                dueFits("fall" + (char) c + "1" + (char) c + (char) c + "1;");
            } else {
                Check.dueFault(open + (char) c, firsts[c] == 2 ? 2 : 1, open.length());
                Check.dueFault((char) c + "   " + open, firsts[c] == 2 ? 2 : 1, 0);
            }
        }
        dueFits("fall 1 1;frees:[(1+2-3)*4=5 and 1<2]or not 1>2;");
        dueFits("fall\n1\n1\n;\nfrees\n:\n[\n(\n1\n+\n2\n-\n3\n)\n*\n4\n=\n5\nand\n1\n<\n2\n]\nor\nnot\n1\n>\n2\n;\n");
    }

    /** "TOKENS, as long as they go": words, and numbers beside words. */
    private static void wordsAsLongAsTheyGo() {
        Check.dueFault("fallfall 1 1;", 2, 0);
        Check.dueFault("fal 1 1;", 2, 0);
        Check.dueFault("fa ll 1 1;", 2, 0);
        Check.dueFault("fall 1 1;hourhour 1;", 2, 9);
        Check.dueFault("fall 1 1;hangs:heldheld;", 2, 15);
        Check.dueFault("fall 1 1;hangs:hel;", 2, 15);
        Check.dueFault("fall 1 1;frees:1=1and1=1or;", 2, 26);
        dueFits("fall1 1;frees:1=1and1=1or 1=1;hour5;");
        Check.dueFault("fall 1 1;frees:1=1andnot 1=1;", 2, 18);
        Check.dueFault("fall 1 1;thing 1 up0 0for1on;", 2, 26);
        dueFits("fall 1 1;thing 1up0 0for1;");
    }

    /** "N (1 to 3 digits)"; "4 digits and more: at their first". */
    private static void digits() {
        dueFits("fall 001 009;hour 000;");
        dueFits("fall 1 1;hour 99;");
        dueFits("fall 1 1;hour 099;");
        Check.dueFault("fall 1 1;hour 0099;", 1, 14);
        Check.dueFault("fall 1 1;hour 0000000000000000000000099;", 1, 14);
        Check.dueFault("fall 1 1;hour 1000;", 1, 14);
        Check.dueFault("fall 1111;", 1, 5);
        dueFits("fall 1 1;hangs:999;");
        Check.dueFault("fall 1 1;hangs:1000;", 1, 15);
        Check.dueFault("fall 1 1;1000", 1, 9);
        Check.dueFault("fall 1 1;100", 2, 9);
        Check.due("three digits told", Check.of("fall 1 1;hour 987;").count(8), 987);
    }

    /** "the end: the text's length". */
    private static void theEnd() {
        Check.dueFault("", 2, 0);
        Check.dueFault("\n", 2, 1);
        Check.dueFault("     ", 2, 5);
        Check.dueFault("fall 1 1", 2, 8);
        Check.dueFault("fall 1 1 \n", 2, 10);
        dueFits("fall 1 1;");
        dueFits("fall 1 1; \n ");
        Check.dueFault("fall 1 1;;", 2, 9);
        Check.dueFault("fall 1 1; ; ", 2, 10);
    }

    /** "fall must be told first, and once". */
    private static void fallFirstAndOnce() {
        String[] lines = {"thing 1 held 0;", "walker 0;", "hangs:1;", "frees:1=1;", "hour 1;"};
        for (String line : lines) {
            dueFits("fall 1 1;" + line);
            Check.dueFault(line, 2, 0);
            Check.dueFault(" " + line + "fall 1 1;", 2, 1);
            Check.dueFault("fall 1 1;" + line + "fall 1 1;", 2, 9 + line.length());
        }
        Check.dueFault("fall 1 1;fall 1 1;", 2, 9);
        Check.dueFault("fall fall 1 1;", 2, 5);
    }

    /**
     * A text that ends behind each of its tokens: the fault is at the text's length, but behind a line's end; a ; fits
     * behind those that are marked alone.
     */
    private static void cutAtEachToken() {
        String text = "fall 2 9! ; thing 5 held 3! ; thing 6 up 1 8 for 7! ; thing 7 on 1! ; walker 0! 1! ; "
                + "hangs : ( held + 2 )! * 3! - level! ; frees : [ not wa < wb or la = 3 ]! and hour > 2! ; hour 5! ;";
        StringBuilder told = new StringBuilder();
        for (String marked : text.split(" ")) {
            String token = marked.replace("!", "");
            told.append(token).append(' ');
            if (token.equals(";")) {
                dueFits(told.toString());
            } else {
                Check.dueFault(told.toString(), 2, told.length());
            }
            if (marked.endsWith("!")) {
                dueFits(told + ";");
            } else {
                Check.dueFault(told + ";", 2, told.length());
            }
            // No token fits behind all of these.
            Check.dueFault(told + "lyin 1;", 2, told.length());
        }
    }

    private static void dueCut(String tape, int n, int kind, int place) {
        LateFalls x = new LateFalls();
        Check.feed(x, tape);
        Check.due("the first " + n + " of " + tape, x.district(n), -10 - kind);
        Check.due("fault(1) of the first " + n + " of " + tape, x.fault(1), place);
    }

    /** "The first n bytes of the tape": those behind them are no part of a token. */
    private static void bytesBehind() {
        dueCut("fall 1 99;", 8, 2, 8);
        dueCut("fallfall", 4, 2, 4);
        dueCut("fall 1 1;hour 9999;", 17, 2, 17);
        dueCut("fall 1 1;hour 9999;", 18, 1, 14);
        dueCut("fall 1 1;hours;", 13, 2, 13);
        dueCut("fall 1 1;hours;", 14, 2, 9);
        LateFalls x = new LateFalls();
        Check.feed(x, "fall 1 1;hour 5;5;");
        Check.due("district(16)", x.district(16), 2);
        LateFalls longer = new LateFalls();
        Check.feed(longer, "fall 1 1;hour 5;walker 0;thing 5 held 0;");
        Check.due("a long text", longer.district(40), 4);
        Check.feed(longer, "fall 1 1;hour 7;");
        Check.due("then a short one", longer.district(16), 2);
        Check.due("of its own", longer.count(7), 0);
    }

    /** A district is told anew: nothing of the one before stays. */
    private static void toldAnew() {
        LateFalls x = Check.of("fall 6 9;thing 9 up 5 8 for 3;thing 8 on 4;thing 7 held 9;thing 6 up 3 3 for 3;walker 5;"
                + "walker 4 3;hangs:7;frees:1=2;hour 50;");
        x.hours(3);
        Check.due("hurt", x.count(11), 9 + 6);
        Check.due("district", Check.tell(x, "fall 2 9;thing 1 held 4;thing 2 held 5;thing 3 up 0 8 for 9;thing 4 up 0 6 for 9;"
                + "walker 0;"), 6);
        int[] counts = {6, 2, 9, 4, 2, 2, 0, 1, 0, 0, 0, 0};
        for (int what = 0; what < counts.length; what++) {
            Check.due("count(" + what + ") of the later one", x.count(what), counts[what]);
        }
        int[][] things = {{1, 0, -1, -1, 4, -1}, {2, 0, -1, -1, 5, -1}, {3, 1, 0, 8, -1, 9}, {4, 1, 0, 6, -1, 9}};
        for (int t = 0; t < 4; t++) {
            for (int what = 0; what < 6; what++) {
                Check.due("thing(" + t + ", " + what + ") of the later one", x.thing(t, what), things[t][what]);
            }
        }
        Check.due("its walker has one column", x.walker(0, 2), 1);
        Check.due("nobody is hurt", x.walker(0, 1), 0);
        Check.due("no law hangs", x.hanging(0, 0, 0, 5), 5);
        Check.due("no law frees", x.frees(2), 8);
        Check.badArgument("nothing to be undone", () -> x.undo(1));
    }

    /** "in hangs held, weight, column, level, hour, lying, in frees wa, wb, la, lb, hour"; "a word of the other law". */
    private static void wordsOfTheLaws() {
        for (String word : "held weight column level hour lying".split(" ")) {
            dueFits("fall 1 1;hangs:" + word + ";");
            dueFits("fall 1 1;hangs:1+" + word + "*2;");
            if (!word.equals("hour")) {
                Check.dueFault("fall 1 1;frees:" + word + "=1;", 2, 15);
                Check.dueFault("fall 1 1;frees:1=" + word + ";", 2, 17);
            }
        }
        for (String word : "wa wb la lb hour".split(" ")) {
            dueFits("fall 1 1;frees:" + word + "=1;");
            dueFits("fall 1 1;frees:1<" + word + "*2;");
            if (!word.equals("hour")) {
                Check.dueFault("fall 1 1;hangs:" + word + ";", 2, 15);
                Check.dueFault("fall 1 1;hangs:1+" + word + ";", 2, 17);
            }
        }
        for (String word : "fall thing walker hangs frees up for on and or not".split(" ")) {
            Check.dueFault("fall 1 1;hangs:" + word + ";", 2, 15);
            Check.dueFault("fall 1 1;frees:1=" + word + ";", 2, 17);
        }
    }

    private static String times(int many, String what) {
        return what.repeat(many);
    }

    /** "At most six of not [ ( within one another"; "a seventh of not [ (". */
    private static void sixWithinOneAnother() {
        String hangs = "fall 1 1;hangs:";
        String frees = "fall 1 1;frees:";
        dueFits(hangs + times(6, "(") + "1" + times(6, ")") + ";");
        Check.dueFault(hangs + times(7, "(") + "1" + times(7, ")") + ";", 4, 21);
        dueFits(frees + times(6, "[") + "1=1" + times(6, "]") + ";");
        Check.dueFault(frees + times(7, "[") + "1=1" + times(7, "]") + ";", 4, 21);
        dueFits(frees + times(6, "not ") + "1=1;");
        Check.dueFault(frees + times(7, "not ") + "1=1;", 4, 39);
        dueFits(frees + times(6, "(") + "1" + times(6, ")") + "=1;");
        Check.dueFault(frees + times(7, "(") + "1" + times(7, ")") + "=1;", 4, 21);
        dueFits(frees + "1=" + times(6, "(") + "1" + times(6, ")") + ";");
        Check.dueFault(frees + "1=" + times(7, "(") + "1" + times(7, ")") + ";", 4, 23);
        dueFits(frees + "not[not[not(1)=1]];");
        dueFits(frees + "not[not[(1)=((1))]];");
        Check.dueFault(frees + "not[not[(1)=(((1)))]];", 4, 29);
        Check.dueFault(frees + "not[not[not((1))=1]];", 4, 27);
        Check.dueFault(frees + "[[[[[[not 1=1]]]]]];", 4, 21);
        Check.dueFault(frees + "[[[[[[(1)=1]]]]]];", 4, 21);
        Check.dueFault(frees + "[[[[[[1=(1)]]]]]];", 4, 23);
        // What is shut, and the other side of and, or, + and *, is not within.
        dueFits(hangs + "((((((1))))))+((((((1))))))*((((((1))))))-((((((1))))));");
        dueFits(frees + "[[[[[[1=1]]]]]]and[[[[[[1=1]]]]]]or[[[[[[1=1]]]]]];");
        dueFits(frees + "not not not not not not 1=1 and not not not not not not 1=1;");
        dueFits(frees + "((((((1))))))<((((((1))))));");
        dueFits(hangs + "(((((1)+(1)))))*(2);");
        Check.dueFault(hangs + "((((((1)+(1)+((2)))))));", 4, 29);
    }

    /** "of one TOKEN the least kind". */
    private static void theLeastKind() {
        // No token, where nothing of its sort could stand.
        Check.dueFault("fall 2 2;hour;1000", 2, 13);
        Check.dueFault("fall 2 2 1000;", 1, 9);
        Check.dueFault("fall 2 2;hangs:1 1000;", 1, 17);
        // No token, where a number out of its bounds could stand.
        Check.dueFault("fall 1000 2;", 1, 5);
        Check.dueFault("fall 2 2;walker 1000;", 1, 16);
        // A number that can't stand there, and would be out of its bounds.
        Check.dueFault("fall 2 2;walker 0 0 0 0 0 0 0 0 2;", 2, 32);
        Check.dueFault("fall 2 2 999;", 2, 9);
        // A seventh that can't stand there.
        Check.dueFault("fall 2 2;hangs:((((((not 1))))));", 2, 21);
        Check.dueFault("fall 2 2;hangs:(((((([1]))))));", 2, 21);
        Check.dueFault("fall 2 2;frees:[[[[[[1=not 1]]]]]];", 2, 23);
        Check.dueFault("fall 2 2;frees:[[[[[[1=[1]]]]]]];", 2, 23);
        Check.dueFault("fall 2 2;frees:[[[[[[1(1)=1]]]]]];", 2, 22);
    }

    /** "FAULTS, the first along the text". */
    private static void theFirstAlongTheText() {
        Check.dueFault("fall 7 10;%", 3, 5);
        Check.dueFault("fall 6 10;%", 3, 7);
        Check.dueFault("fall 6 9;%;fall", 1, 9);
        Check.dueFault("fall 6 9;thing 100 up 6 9 for 100;", 3, 15);
        Check.dueFault("fall 6 9;thing 99 up 6 9 for 100;", 3, 21);
        Check.dueFault("fall 6 9;thing 99 up 5 9 for 100;", 3, 23);
        Check.dueFault("fall 6 9;thing 99 up 5 8 for 100;", 3, 29);
        Check.dueFault("fall 6 9;thing 99 up 5 8 on 100;", 2, 25);
        Check.dueFault("fall 6 9;walker 6 %", 3, 16);
        Check.dueFault("fall 6 9;walker 5 %", 1, 18);
        Check.dueFault("fall 6 9;hangs:(((((((1;hour 5 5;", 4, 21);
        Check.dueFault("fall 6 9;hangs:((((((1;hour 5 5;", 2, 22);
    }

    /** "-10 less the FAULT (all stays)". */
    private static void allStaysAtAFault() {
        String[] faults = {"fall 1 1;%", "fall 1 1", "fall 1 1;thing 5 on 1;", "fall 1 1;hangs:(((((((1;"};
        for (int kind = 1; kind <= 4; kind++) {
            LateFalls x = Check.of("fall 2 3;thing 5 held 1;thing 6 up 1 2 for 3;walker 1 0;hangs:7;frees:1=2;hour 4;");
            x.hours(1);
            x.tray(0, 0, 1);
            x.image(0);
            Check.due("district of fault " + kind, Check.tell(x, faults[kind - 1]), -10 - kind);
            int[] counts = {7, 2, 3, 2, 1, 1, 0, 1, 5, 1, 0, 0};
            for (int what = 0; what < counts.length; what++) {
                Check.due("count(" + what + ") behind fault " + kind, x.count(what), counts[what]);
            }
            Check.due("held behind fault " + kind, x.thing(0, 4), 2);
            Check.due("hangs behind fault " + kind, x.falls(1), 2);
            Check.due("the law hangs behind fault " + kind, x.hanging(0, 0, 0, 0), 7);
            Check.due("the walker behind fault " + kind, x.walker(0, 0), 0);
            Check.due("the tray behind fault " + kind, x.judge(0, 0), NONE);
            Check.due("undo(1) behind fault " + kind, x.undo(1), 0);
            Check.due("the hour then", x.count(8), 4);
            x.restore(0);
            Check.due("the image behind fault " + kind, x.count(8), 5);
        }
    }

    /** "Of the latest district() that threw nothing"; "0 without, and at first"; "NONE for others". */
    private static void latestDistrict() {
        LateFalls x = new LateFalls();
        int[] others = {-1, 2, Integer.MIN_VALUE, Integer.MAX_VALUE};
        for (int what : others) {
            Check.due("fault(" + what + ") at first", x.fault(what), NONE);
        }
        Check.due("fault(0) at first", x.fault(0), 0);
        Check.due("fault(1) at first", x.fault(1), NONE);
        Check.tell(x, "fall 1 1;%");
        Check.badArgument("district(1)", () -> x.district(1));
        Check.due("fault(0)", x.fault(0), 1);
        Check.due("fault(1)", x.fault(1), 9);
        for (int what : others) {
            Check.due("fault(" + what + ")", x.fault(what), NONE);
        }
        Check.tell(x, "fall 1 1");
        Check.due("fault(0) of the next one", x.fault(0), 2);
        Check.due("fault(1) of the next one", x.fault(1), 8);
        Check.tell(x, "fall 1 1;");
        Check.badArgument("district(-1)", () -> x.district(-1));
        Check.due("fault(0) without", x.fault(0), 0);
        Check.due("fault(1) without", x.fault(1), NONE);
        Check.tell(x, "");
        Check.due("fault(0) of no text", x.fault(0), 2);
        Check.due("fault(1) of no text", x.fault(1), 0);
    }
}
