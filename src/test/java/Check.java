/** What the tests share: answers that are due, throws that are due, texts fed to an object. */
final class Check {
    interface Call {
        long run();
    }

    private static int wrong = 0;
    private static int seen = 0;

    private Check() {
    }

    static void due(String what, long got, long want) {
        seen++;
        if (got != want) {
            wrong++;
            System.out.println(what + " answered " + got + ", due is " + want);
        }
    }

    /** "0" if it throws nothing, or the simple name of what it throws. */
    static String thrown(Call call) {
        try {
            call.run();
            return "0";
        } catch (RuntimeException e) {
            return e.getClass().getSimpleName();
        }
    }

    static void dueThrow(String what, String want, Call call) {
        seen++;
        String got = thrown(call);
        if (!got.equals(want)) {
            wrong++;
            System.out.println(what + " throws " + got + ", due is " + want);
        }
    }

    static void noSuch(String what, Call call) {
        dueThrow(what, "NoSuchElementException", call);
    }

    static void badState(String what, Call call) {
        dueThrow(what, "IllegalStateException", call);
    }

    static void badArgument(String what, Call call) {
        dueThrow(what, "IllegalArgumentException", call);
    }

    static void badIndex(String what, Call call) {
        dueThrow(what, "IndexOutOfBoundsException", call);
    }

    static void feed(LateFalls x, String text) {
        byte[] bytes = new byte[(text.length() + 19) / 20 * 20];
        for (int i = 0; i < bytes.length; i++) {
            bytes[i] = (byte) (i < text.length() ? text.charAt(i) : ' ');
        }
        for (int i = 0; i < bytes.length; i += 20) {
            x.feed(four(bytes, i), four(bytes, i + 4), four(bytes, i + 8), four(bytes, i + 12), four(bytes, i + 16));
        }
    }

    private static int four(byte[] bytes, int i) {
        return bytes[i] << 24 | (bytes[i + 1] & 255) << 16 | (bytes[i + 2] & 255) << 8 | bytes[i + 3] & 255;
    }

    static int tell(LateFalls x, String text) {
        feed(x, text);
        return x.district(text.length());
    }

    /** An object with this district; a fault in the text is a fault of the test. */
    static LateFalls of(String text) {
        LateFalls x = new LateFalls();
        int lines = tell(x, text);
        if (lines < 1) {
            throw new IllegalStateException("fault " + lines + " at " + x.fault(1) + " in " + text);
        }
        return x;
    }

    static void dueFault(String text, int kind, int place) {
        LateFalls x = new LateFalls();
        due("district of " + text, tell(x, text), -10 - kind);
        due("fault(0) of " + text, x.fault(0), kind);
        due("fault(1) of " + text, x.fault(1), place);
    }

    static void end() {
        System.out.println(wrong == 0 ? seen + " answers as due" : wrong + " of " + seen + " answers not as due");
        if (wrong != 0) {
            System.exit(1);
        }
    }
}
