import java.util.Random;

/** Random texts of districts, right ones and broken ones. */
final class RandomText {
    private final Random random;
    private final StringBuilder out = new StringBuilder();

    RandomText(Random random) {
        this.random = random;
    }

    String district() {
        int columns = 1 + random.nextInt(random.nextBoolean() ? 2 : 6);
        int levels = 1 + random.nextInt(9);
        put("fall", columns, levels, ";");
        int[] lying = new int[columns];
        boolean[][] hung = new boolean[columns][levels];
        int things = random.nextInt(9);
        int walkers = random.nextInt(5);
        if (random.nextInt(3) == 0) {
            law("hangs");
        }
        for (int i = 0; i < things; i++) {
            thing(columns, levels, lying, hung);
        }
        for (int i = 0; i < walkers; i++) {
            put("walker");
            for (int k = 1 + random.nextInt(8); k > 0; k--) {
                put(random.nextInt(columns));
            }
            put(";");
        }
        if (random.nextInt(2) == 0) {
            law("frees");
        }
        if (random.nextInt(3) == 0) {
            law("hangs");
        }
        if (random.nextInt(2) == 0) {
            put("hour", random.nextInt(random.nextBoolean() ? 1000 : 30), ";");
        }
        return out.length() > 900 ? new RandomText(random).district() : out.toString();
    }

    private void thing(int columns, int levels, int[] lying, boolean[][] hung) {
        int c = random.nextInt(columns);
        int l = random.nextInt(levels);
        int how = random.nextInt(3);
        put("thing", 1 + random.nextInt(random.nextBoolean() ? 99 : 5));
        if (how == 1 && l >= lying[c] && !hung[c][l]) {
            hung[c][l] = true;
            put("up", c, l, "for", 1 + random.nextInt(random.nextInt(3) == 0 ? 99 : 9));
        } else if (how == 2 && lying[c] < levels && !hung[c][lying[c]]) {
            lying[c]++;
            put("on", c);
        } else {
            put("held", random.nextInt(random.nextInt(3) == 0 ? 100 : 6));
        }
        put(";");
    }

    private void law(String which) {
        put(which, ":");
        if (which.equals("hangs")) {
            sum(new String[] {"held", "weight", "column", "level", "hour", "lying"}, 0);
        } else {
            truth(0);
        }
        put(";");
    }

    private void truth(int depth) {
        for (int i = 0; i == 0 || i < 3 && random.nextInt(3) == 0; i++) {
            if (i > 0) {
                put(random.nextBoolean() ? "and" : "or");
            }
            int pick = depth < 6 ? random.nextInt(5) : 4;
            if (pick == 0) {
                put("not");
                unit(depth + 1);
            } else if (pick == 1) {
                put("[");
                truth(depth + 1);
                put("]");
            } else {
                unit(depth);
            }
        }
    }

    private void unit(int depth) {
        String[] words = {"wa", "wb", "la", "lb", "hour"};
        sum(words, depth);
        put("=<>".substring(random.nextInt(3)).substring(0, 1));
        sum(words, depth);
    }

    private void sum(String[] words, int depth) {
        for (int i = 0; i == 0 || i < 5 && random.nextInt(2) == 0; i++) {
            if (i > 0) {
                put("+-*".substring(random.nextInt(3)).substring(0, 1));
            }
            int pick = random.nextInt(6);
            if (pick == 0 && depth < 6) {
                put("(");
                sum(words, depth + 1);
                put(")");
            } else if (pick < 4) {
                put(words[random.nextInt(words.length)]);
            } else {
                put(random.nextInt(random.nextInt(4) == 0 ? 1000 : 10));
            }
        }
    }

    private void put(Object... tokens) {
        for (Object token : tokens) {
            String s = token.toString();
            boolean word = Character.isLetterOrDigit(s.charAt(0));
            boolean wordBefore = out.length() > 0 && Character.isLetterOrDigit(out.charAt(out.length() - 1));
            if (word && wordBefore || random.nextInt(12) == 0) {
                out.append(random.nextInt(9) == 0 ? '\n' : ' ');
            }
            out.append(s);
        }
    }

    String broken() {
        StringBuilder text = new StringBuilder(district());
        String[] bits = {"0", "9", "10", "100", "1000", ";", ":", "(", "[", ")", "]", "not ", "fall 1 1;", "thing",
            " held ", "wa", "up", "on", "for", "\t", "A", " ", "walker 0;", "thing 1 held 0;", "thing 1 on 0;",
            "hangs:1;", "not not not not not ", "((((((", "thing 5 up 0 1 for 3;", "#", "and", "or", "=", "x",
            "" + (char) 228, "hour 7;", "thing 1 on 1;", "thing 1 up 1 0 for 1;", "thing 100 on 0;", "thing 1 held 100;",
            "walker 5;", "walker 0 0 0 0 0 0 0 0;", "thing 2 up 0 0 for 1;", "thing 2 up 0 3 for 9;", "frees:[[[[[[[1=1",
            "hangs:(((1+(((2*(3", "frees:[not not[((wa)+((1)))=1]];", "frees:", "frees:not[not[(wa+1)*2=((3))]];"};
        for (int n = 1 + random.nextInt(2); n > 0; n--) {
            int at = random.nextInt(text.length() + 1);
            int semicolon = text.indexOf(";", at);
            if (semicolon >= 0 && random.nextBoolean()) {
                at = semicolon + 1;
            }
            int pick = random.nextInt(4);
            if (pick == 0 && at < text.length()) {
                text.deleteCharAt(at);
            } else if (pick == 1) {
                text.setLength(at);
            } else {
                for (int k = random.nextInt(6) == 0 ? 9 : 1; k > 0; k--) {
                    text.insert(at, bits[random.nextInt(bits.length)]);
                }
            }
        }
        text.setLength(Math.min(text.length(), 900));
        return text.length() == 0 ? " " : text.toString();
    }
}
