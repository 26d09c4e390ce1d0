import java.util.ArrayDeque;
import java.util.ArrayList;
import java.util.Arrays;
import java.util.HashMap;
import java.util.List;
import java.util.Map;
import java.util.NoSuchElementException;
import java.util.TreeMap;
import java.util.regex.Matcher;
import java.util.regex.Pattern;

/** The document written a second time, hour by hour and with no thought of speed or room. */
final class PlainModel {
    // ---- the text

    static final class Fault extends RuntimeException {
        final int kind;
        final int place;

        Fault(int kind, int place) {
            this.kind = kind;
            this.place = place;
        }
    }

    interface Sum {
        long of(Map<String, Integer> given);
    }

    interface Truth {
        boolean of(Map<String, Integer> given);
    }

    static final class Thing implements Cloneable {
        int weight;
        int state;
        int column = -1;
        int level = -1;
        int count; // hours held, or hours it hangs still

        Thing copy() {
            try {
                return (Thing) clone();
            } catch (CloneNotSupportedException e) {
                throw new AssertionError(e);
            }
        }
    }

    /** All but the tape, the fault, trays and what can be undone. */
    static final class World {
        int lines = 0;
        int columns = 1;
        int levels = 1;
        int hour = 0;
        List<Thing> things = new ArrayList<>();
        List<int[]> rounds = new ArrayList<>();
        int[] hurt = new int[4];
        Sum hangs;
        Truth frees;

        World copy() {
            World w = new World();
            w.lines = lines;
            w.columns = columns;
            w.levels = levels;
            w.hour = hour;
            for (Thing t : things) {
                w.things.add(t.copy());
            }
            w.rounds = rounds;
            w.hurt = hurt.clone();
            w.hangs = hangs;
            w.frees = frees;
            return w;
        }

        int walkerAt(int w, int when) {
            int[] round = rounds.get(w);
            return round[when % round.length];
        }

        int height(int c) {
            int n = 0;
            for (Thing t : things) {
                n += t.state == 2 && t.column == c ? 1 : 0;
            }
            return n;
        }

        int at(int c, int l) {
            for (int i = 0; i < things.size(); i++) {
                Thing t = things.get(i);
                if (t.state != 0 && t.column == c && t.level == l) {
                    return i;
                }
            }
            return -1;
        }

        boolean placeFree(int c, int l) {
            return at(c, l) == -1 && l >= height(c);
        }

        int hangTime(int held, int weight, int c, int l, int when, int lying) {
            if (hangs == null) {
                return held;
            }
            long n = hangs.of(Map.of("held", held, "weight", weight, "column", c, "level", l, "hour", when % 24,
                    "lying", lying));
            return (int) Math.max(0, Math.min(999, n));
        }

        boolean setsFree(Thing upper, Thing lower) {
            return frees == null || frees.of(Map.of("wa", upper.weight, "wb", lower.weight, "la", upper.level,
                    "lb", lower.level, "hour", hour % 24));
        }

        /** Bits of all that fall in column c, if those of the bits do. */
        int withThem(int c, int bits) {
            while (true) {
                int more = bits;
                for (int i = 0; i < things.size(); i++) {
                    Thing low = things.get(i);
                    if (low.state != 1 || low.column != c) {
                        continue;
                    }
                    if (low.level < height(c) + Integer.bitCount(bits)) {
                        more |= 1 << i;
                    }
                    for (int j = 0; j < things.size(); j++) {
                        Thing up = things.get(j);
                        if ((bits >> j & 1) == 1 && up.level > low.level && setsFree(up, low)) {
                            more |= 1 << i;
                        }
                    }
                }
                if (more == bits) {
                    return bits;
                }
                bits = more;
            }
        }

        int fall(int c, int bits) {
            if (bits == 0) {
                return 0;
            }
            int all = withThem(c, bits);
            List<Thing> order = new ArrayList<>();
            for (int i = 0; i < things.size(); i++) {
                if ((all >> i & 1) == 1) {
                    order.add(things.get(i));
                }
            }
            order.sort((a, b) -> a.level - b.level);
            int weight = 0;
            for (Thing t : order) {
                int l = height(c);
                t.state = 2;
                t.level = l;
                weight += t.weight;
            }
            for (int w = 0; w < rounds.size(); w++) {
                if (walkerAt(w, hour) == c) {
                    hurt[w] += weight;
                }
            }
            return all;
        }

        /** Bits of those that fell. */
        int passHour() {
            hour++;
            for (Thing t : things) {
                if (t.state == 0) {
                    t.count++;
                } else if (t.state == 1) {
                    t.count--;
                }
            }
            int all = 0;
            for (int c = 0; c < columns; c++) {
                int bits = 0;
                for (int i = 0; i < things.size(); i++) {
                    Thing t = things.get(i);
                    if (t.state == 1 && t.column == c && t.count == 0) {
                        bits |= 1 << i;
                    }
                }
                all |= fall(c, bits);
            }
            return all;
        }

        int quake() {
            int all = 0;
            for (int c = 0; c < columns; c++) {
                int bits = 0;
                for (int i = 0; i < things.size(); i++) {
                    if (things.get(i).state == 1 && things.get(i).column == c) {
                        bits |= 1 << i;
                    }
                }
                all |= fall(c, bits);
            }
            return all;
        }

        int whyNotLetGo(int t, int c, int l) {
            if (t < 0 || t >= things.size() || c < 0 || c >= columns || l < 0 || l >= levels) {
                return 1;
            }
            if (things.get(t).state != 0) {
                return 2;
            }
            return placeFree(c, l) ? 0 : 3;
        }

        int letGo(int t, int c, int l) {
            Thing thing = things.get(t);
            int n = hangTime(thing.count, thing.weight, c, l, hour, height(c));
            thing.state = 1;
            thing.column = c;
            thing.level = l;
            thing.count = n;
            if (n == 0) {
                lastFall = fall(c, 1 << t);
            }
            return n;
        }

        int lastFall;

        int whyNotTake(int t) {
            if (t < 0 || t >= things.size()) {
                return 1;
            }
            Thing thing = things.get(t);
            if (thing.state == 0) {
                return 2;
            }
            return thing.state == 2 && thing.level != height(thing.column) - 1 ? 3 : 0;
        }

        void take(int t) {
            Thing thing = things.get(t);
            thing.state = 0;
            thing.column = -1;
            thing.level = -1;
            thing.count = 0;
        }

        boolean anyHangs() {
            for (Thing t : things) {
                if (t.state == 1) {
                    return true;
                }
            }
            return false;
        }

        int sumHurt() {
            return Arrays.stream(hurt).sum();
        }

        int lying() {
            int n = 0;
            for (Thing t : things) {
                n += t.state == 2 ? 1 : 0;
            }
            return n;
        }
    }

    private static final Pattern TOKEN = Pattern.compile("[ \\n]*(?:([a-z]+)|([0-9]+)|([;:+\\-*()\\[\\]=<>]))");

    /** Reads one text. */
    static final class Parser {
        final String text;
        int at = 0;
        String token = ""; // "" is the end, null a place where none begins
        int start = 0;
        final World world = new World();
        int startHour = 0;

        Parser(String text) {
            this.text = text;
            step();
        }

        void step() {
            Matcher m = TOKEN.matcher(text).region(at, text.length());
            if (m.lookingAt()) {
                token = m.group(1) != null ? m.group(1) : m.group(2) != null ? m.group(2) : m.group(3);
                start = m.end() - token.length();
                at = m.end();
                if (m.group(2) != null && token.length() > 3) {
                    token = null;
                }
                return;
            }
            int i = at;
            while (i < text.length() && (text.charAt(i) == ' ' || text.charAt(i) == '\n')) {
                i++;
            }
            token = i == text.length() ? "" : null;
            start = i;
        }

        Fault cant() {
            return new Fault(token == null ? 1 : 2, start);
        }

        boolean is(String s) {
            return s.equals(token);
        }

        boolean isNumber() {
            return token != null && !token.isEmpty() && Character.isDigit(token.charAt(0));
        }

        void must(String s) {
            if (!is(s)) {
                throw cant();
            }
            step();
        }

        int peekNumber(int least, int most) {
            if (!isNumber()) {
                throw cant();
            }
            int n = Integer.parseInt(token);
            if (n < least || n > most) {
                throw new Fault(3, start);
            }
            return n;
        }

        int number(int least, int most) {
            int n = peekNumber(least, most);
            step();
            return n;
        }

        World read() {
            must("fall");
            world.columns = number(1, 6);
            world.levels = number(1, 9);
            must(";");
            world.lines = 1;
            while (!is("")) {
                line();
                must(";");
                world.lines++;
            }
            world.hour = startHour;
            return world;
        }

        void line() {
            if (is("thing")) {
                thing();
            } else if (is("walker")) {
                walker();
            } else if (is("hangs")) {
                step();
                must(":");
                world.hangs = sum(List.of("held", "weight", "column", "level", "hour", "lying"), 0);
            } else if (is("frees")) {
                step();
                must(":");
                world.frees = truth(0);
            } else if (is("hour")) {
                step();
                startHour = number(0, 999);
            } else {
                throw cant();
            }
        }

        void thing() {
            if (world.things.size() == 8) {
                throw new Fault(4, start);
            }
            step();
            Thing t = new Thing();
            t.weight = number(1, 99);
            if (is("held")) {
                step();
                t.count = number(0, 99);
            } else if (is("up")) {
                step();
                t.state = 1;
                t.column = number(0, world.columns - 1);
                t.level = peekNumber(0, world.levels - 1);
                if (!world.placeFree(t.column, t.level)) {
                    throw new Fault(3, start);
                }
                step();
                must("for");
                t.count = number(1, 99);
            } else if (is("on")) {
                step();
                t.state = 2;
                t.column = peekNumber(0, world.columns - 1);
                t.level = world.height(t.column);
                if (t.level >= world.levels || world.at(t.column, t.level) >= 0) {
                    throw new Fault(3, start);
                }
                step();
            } else {
                throw cant();
            }
            world.things.add(t);
        }

        void walker() {
            if (world.rounds.size() == 4) {
                throw new Fault(4, start);
            }
            step();
            List<Integer> round = new ArrayList<>();
            do {
                if (round.size() == 8) {
                    throw cant();
                }
                round.add(number(0, world.columns - 1));
            } while (isNumber());
            world.rounds.add(round.stream().mapToInt(i -> i).toArray());
        }

        static long kept(long n) {
            return n > 1000000 ? 1000000 : n < -1000000 ? -1000000 : n;
        }

        void deeper(int depth) {
            if (depth == 6) {
                throw new Fault(4, start);
            }
            step();
        }

        Truth truth(int depth) {
            Truth left = bothOf(depth);
            while (is("or")) {
                step();
                Truth a = left;
                Truth b = bothOf(depth);
                left = g -> a.of(g) || b.of(g);
            }
            return left;
        }

        Truth bothOf(int depth) {
            Truth left = unit(depth);
            while (is("and")) {
                step();
                Truth a = left;
                Truth b = unit(depth);
                left = g -> a.of(g) && b.of(g);
            }
            return left;
        }

        Truth unit(int depth) {
            if (is("not")) {
                deeper(depth);
                Truth a = unit(depth + 1);
                return g -> !a.of(g);
            }
            if (is("[")) {
                deeper(depth);
                Truth a = truth(depth + 1);
                must("]");
                return a;
            }
            List<String> words = List.of("wa", "wb", "la", "lb", "hour");
            Sum a = sum(words, depth);
            String sign = token;
            if (!is("=") && !is("<") && !is(">")) {
                throw cant();
            }
            step();
            Sum b = sum(words, depth);
            return g -> sign.equals("=") ? a.of(g) == b.of(g) : sign.equals("<") ? a.of(g) < b.of(g) : a.of(g) > b.of(g);
        }

        Sum sum(List<String> words, int depth) {
            Sum left = term(words, depth);
            while (is("+") || is("-")) {
                int sign = is("+") ? 1 : -1;
                step();
                Sum a = left;
                Sum b = term(words, depth);
                left = g -> kept(a.of(g) + sign * b.of(g));
            }
            return left;
        }

        Sum term(List<String> words, int depth) {
            Sum left = atom(words, depth);
            while (is("*")) {
                step();
                Sum a = left;
                Sum b = atom(words, depth);
                left = g -> kept(a.of(g) * b.of(g));
            }
            return left;
        }

        Sum atom(List<String> words, int depth) {
            if (isNumber()) {
                int n = number(0, 999);
                return g -> n;
            }
            if (is("(")) {
                deeper(depth);
                Sum a = sum(words, depth + 1);
                must(")");
                return a;
            }
            if (token == null || !words.contains(token)) {
                throw cant();
            }
            String word = token;
            step();
            return g -> g.get(word);
        }
    }

    // ---- the state

    World world = new World();
    ArrayDeque<World> undone = new ArrayDeque<>();
    StringBuilder tape = new StringBuilder();
    int faultKind = 0;
    int faultPlace = -1;
    long[][] trays = new long[4][];
    int[] sorts = new int[4];
    World[] imageWorlds = new World[3];
    @SuppressWarnings("unchecked")
    ArrayDeque<World>[] imageUndone = new ArrayDeque[3];

    void keep() {
        undone.addLast(world.copy());
        if (undone.size() > 10) {
            undone.removeFirst();
        }
    }

    Thing thingOf(int t) {
        if (t < 0 || t >= world.things.size()) {
            throw new NoSuchElementException();
        }
        return world.things.get(t);
    }

    void column(int c) {
        if (c < 0 || c >= world.columns) {
            throw new NoSuchElementException();
        }
    }

    void placeOf(int c, int l) {
        column(c);
        if (l < 0 || l >= world.levels) {
            throw new NoSuchElementException();
        }
    }

    void walkerOf(int w) {
        if (w < 0 || w >= world.rounds.size()) {
            throw new NoSuchElementException();
        }
    }

    static void within(int n, int least, int most) {
        if (n < least || n > most) {
            throw new IllegalArgumentException();
        }
    }

    int feed(int a, int b, int c, int d, int e) {
        if (tape.length() + 20 > 900) {
            return -1;
        }
        for (int n : new int[] {a, b, c, d, e}) {
            for (int i = 3; i >= 0; i--) {
                tape.append((char) (n >> 8 * i & 255));
            }
        }
        return tape.length();
    }

    int district(int n) {
        within(n, 0, tape.length());
        String text = tape.substring(0, n);
        tape.setLength(0);
        faultKind = 0;
        faultPlace = -1;
        try {
            world = new Parser(text).read();
            undone.clear();
            return world.lines;
        } catch (Fault f) {
            faultKind = f.kind;
            faultPlace = f.place;
            return -10 - f.kind;
        }
    }

    int fault(int what) {
        return what == 0 ? faultKind : what == 1 ? faultPlace : -1;
    }

    int thing(int t, int what) {
        Thing x = thingOf(t);
        within(what, 0, 5);
        int[] all = {x.weight, x.state, x.column, x.level, x.state == 0 ? x.count : -1, x.state == 1 ? x.count : -1};
        return all[what];
    }

    int walker(int w, int what) {
        walkerOf(w);
        within(what, 0, 2);
        return what == 0 ? world.walkerAt(w, world.hour) : what == 1 ? world.hurt[w] : world.rounds.get(w).length;
    }

    int height(int c) {
        column(c);
        return world.height(c);
    }

    int at(int c, int l) {
        placeOf(c, l);
        return world.at(c, l);
    }

    int hanging(int t, int c, int l, int held) {
        Thing x = thingOf(t);
        placeOf(c, l);
        within(held, 0, 999);
        return world.hangTime(held, x.weight, c, l, world.hour, world.height(c));
    }

    int letGo(int t, int c, int l) {
        int why = world.whyNotLetGo(t, c, l);
        if (why != 0) {
            return -why;
        }
        keep();
        return world.letGo(t, c, l);
    }

    int take(int t) {
        int why = world.whyNotTake(t);
        if (why != 0) {
            return -why;
        }
        keep();
        world.take(t);
        return world.things.get(t).weight;
    }

    int quake() {
        keep();
        return Integer.bitCount(world.quake());
    }

    int hours(int n) {
        within(n, 1, 99);
        keep();
        int many = 0;
        for (int i = 0; i < n; i++) {
            many += Integer.bitCount(world.passHour());
        }
        return many;
    }

    int undo(int n) {
        within(n, 1, 10);
        within(n, 1, undone.size());
        for (int i = 0; i < n; i++) {
            world = undone.removeLast();
        }
        return undone.size();
    }

    long[] filled(int tray) {
        anyTray(tray);
        if (trays[tray] == null) {
            throw new IllegalStateException();
        }
        return trays[tray];
    }

    static void anyTray(int tray) {
        if (tray < 0 || tray > 3) {
            throw new NoSuchElementException();
        }
    }

    static int tellDeed(World w, long v, boolean doIt) {
        int why;
        if (v == -1) {
            if (doIt) {
                w.passHour();
            }
            return 0;
        }
        if (v == 2000) {
            if (doIt) {
                w.quake();
            }
            return 0;
        }
        if (v >= 0 && v <= 799) {
            int t = (int) (v / 100);
            int c = (int) (v / 10 % 10);
            int l = (int) (v % 10);
            why = w.whyNotLetGo(t, c, l);
            if (why == 0 && doIt) {
                w.letGo(t, c, l);
            }
            return why;
        }
        if (v >= 1000 && v < 1000 + w.things.size()) {
            why = w.whyNotTake((int) (v - 1000));
            if (why == 0 && doIt) {
                w.take((int) (v - 1000));
            }
            return why;
        }
        return 1;
    }

    int judge(int tray, int what) {
        long[] row = filled(tray);
        within(what, 0, 3);
        World w = world.copy();
        int place = -1;
        int why = 0;
        for (int i = 0; i < row.length; i++) {
            why = tellDeed(w, row[i], true);
            if (why != 0) {
                place = i;
                break;
            }
        }
        return new int[] {place, why, w.lying(), w.sumHurt()}[what];
    }

    int perform(int tray) {
        long[] row = filled(tray);
        int n = 0;
        for (long v : row) {
            if (tellDeed(world, v, false) != 0) {
                break;
            }
            keep();
            tellDeed(world, v, true);
            n++;
        }
        return n;
    }

    int season(int seed, int times) {
        within(times, 1, 30);
        int[] x = {seed};
        int n = 0;
        for (int i = 0; i < times; i++) {
            int k = drawOf(x) % 4;
            long v = -1;
            if (k >= 2) {
                if (world.things.isEmpty()) {
                    continue;
                }
                int t = drawOf(x) % world.things.size();
                v = 1000 + t;
                if (k == 2) {
                    int c = drawOf(x) % world.columns;
                    int l = drawOf(x) % world.levels;
                    v = t * 100 + c * 10 + l;
                }
            }
            if (tellDeed(world, v, false) == 0) {
                keep();
                tellDeed(world, v, true);
                n++;
            }
        }
        return n;
    }

    static int drawOf(int[] x) {
        x[0] = x[0] * 1103515245 + 12345;
        return x[0] >>> 16;
    }

    // ---- falls to come

    /** Bits of what falls, by hours from now on. */
    TreeMap<Integer, Integer> future(World from) {
        TreeMap<Integer, Integer> all = new TreeMap<>();
        World w = from.copy();
        for (int n = 1; w.anyHangs(); n++) {
            int bits = w.passHour();
            if (bits != 0) {
                all.put(n, bits);
            }
        }
        return all;
    }

    int falls(int t) {
        thingOf(t);
        for (Map.Entry<Integer, Integer> e : future(world).entrySet()) {
            if ((e.getValue() >> t & 1) == 1) {
                return e.getKey();
            }
        }
        return -1;
    }

    int lands(int t) {
        int n = falls(t);
        if (n < 0) {
            return -1;
        }
        World w = world.copy();
        for (int i = 0; i < n; i++) {
            w.passHour();
        }
        return w.things.get(t).level;
    }

    int fallIn(int n) {
        within(n, 1, 999);
        return future(world).getOrDefault(n, 0);
    }

    int next() {
        TreeMap<Integer, Integer> f = future(world);
        return f.isEmpty() ? -1 : f.firstKey();
    }

    int busiest() {
        int best = -1;
        int most = 0;
        for (Map.Entry<Integer, Integer> e : future(world).entrySet()) {
            if (Integer.bitCount(e.getValue()) > most) {
                most = Integer.bitCount(e.getValue());
                best = e.getKey();
            }
        }
        return best;
    }

    int frees(int t) {
        Thing x = thingOf(t);
        if (x.state != 1) {
            throw new IllegalStateException();
        }
        return world.withThem(x.column, 1 << t) & ~(1 << t);
    }

    int heightIn(int c, int n) {
        column(c);
        within(n, 0, 999);
        World w = world.copy();
        for (int i = 0; i < n; i++) {
            w.passHour();
        }
        return w.height(c);
    }

    int hurtIn(int w) {
        walkerOf(w);
        World x = world.copy();
        for (int n = 1; x.anyHangs(); n++) {
            x.passHour();
            if (x.hurt[w] != world.hurt[w]) {
                return n;
            }
        }
        return -1;
    }

    static int hurtToCome(World from, int w) {
        World x = from.copy();
        while (x.anyHangs()) {
            x.passHour();
        }
        return x.hurt[w] - from.hurt[w];
    }

    int hurts(int w) {
        walkerOf(w);
        return hurtToCome(world, w);
    }

    int spares(int w, int c) {
        walkerOf(w);
        column(c);
        World without = world.copy();
        for (int i = 0; i < without.things.size(); i++) {
            if (without.things.get(i).state == 1 && without.things.get(i).column == c) {
                without.take(i);
            }
        }
        return hurtToCome(world, w) - hurtToCome(without, w);
    }

    // ---- waits

    void heldOf(int t) {
        if (thingOf(t).state != 0) {
            throw new IllegalStateException();
        }
    }

    /** How the hour is in which it falls; null, if it can't be let go. */
    World trial(int t, int c, int l, int wait) {
        World w = world.copy();
        for (int i = 0; i < wait; i++) {
            w.passHour();
        }
        if (w.whyNotLetGo(t, c, l) != 0) {
            return null;
        }
        w.letGo(t, c, l);
        while (w.things.get(t).state == 1) {
            w.lastFall = w.passHour();
        }
        return w;
    }

    int fallsBy(int t, int c, int l, int w) {
        thingOf(t);
        placeOf(c, l);
        heldOf(t);
        within(w, 0, 60);
        World x = trial(t, c, l, w);
        return x == null ? -1 : x.hour - world.hour;
    }

    int waitFor(int t, int c, int l, int n) {
        thingOf(t);
        placeOf(c, l);
        heldOf(t);
        within(n, 0, 999);
        for (int w = 0; w <= 60; w++) {
            World x = trial(t, c, l, w);
            if (x != null && x.hour - world.hour == n) {
                return w;
            }
        }
        return -1;
    }

    int waitSafe(int t, int c, int l) {
        thingOf(t);
        placeOf(c, l);
        heldOf(t);
        for (int w = 0; w <= 60; w++) {
            World x = trial(t, c, l, w);
            boolean safe = x != null;
            for (int k = 0; safe && k < world.rounds.size(); k++) {
                safe = x.walkerAt(k, x.hour) != c;
            }
            if (safe) {
                return w;
            }
        }
        return -1;
    }

    int waitHurt(int t, int c, int l, int who) {
        thingOf(t);
        placeOf(c, l);
        walkerOf(who);
        heldOf(t);
        for (int w = 0; w <= 60; w++) {
            World x = trial(t, c, l, w);
            if (x != null && x.walkerAt(who, x.hour) == c) {
                return w;
            }
        }
        return -1;
    }

    int place(int t, boolean late) {
        thingOf(t);
        heldOf(t);
        int best = -1;
        int when = 0;
        for (int p = 0; p < 60; p++) {
            World x = p / 10 < world.columns && p % 10 < world.levels ? trial(t, p / 10, p % 10, 0) : null;
            if (x != null && (best < 0 || (late ? x.hour > when : x.hour < when))) {
                best = p;
                when = x.hour;
            }
        }
        return best;
    }

    int worst(int t, int what) {
        thingOf(t);
        heldOf(t);
        within(what, 0, 1);
        int best = -1;
        int most = 0;
        for (int p = 0; p < 60; p++) {
            World x = p / 10 < world.columns && p % 10 < world.levels ? trial(t, p / 10, p % 10, 0) : null;
            if (x == null) {
                continue;
            }
            int hurt = 0;
            for (int w = 0; w < x.rounds.size(); w++) {
                for (int i = 0; i < x.things.size(); i++) {
                    boolean here = (x.lastFall >> i & 1) == 1 && x.things.get(i).column == p / 10;
                    hurt += here && x.walkerAt(w, x.hour) == p / 10 ? x.things.get(i).weight : 0;
                }
            }
            if (best < 0 || hurt > most) {
                best = p;
                most = hurt;
            }
        }
        return what == 0 ? best : most;
    }

    int both(int t, int u, int c, int d, int l, int what) {
        thingOf(t);
        thingOf(u);
        placeOf(c, l);
        placeOf(d, l);
        heldOf(t);
        heldOf(u);
        if (t == u || c == d) {
            throw new IllegalArgumentException();
        }
        within(what, 0, 2);
        Map<Integer, Integer> first = new HashMap<>();
        TreeMap<Integer, Integer> second = new TreeMap<>();
        for (int w = 0; w <= 60; w++) {
            World x = trial(t, c, l, w);
            if (x != null) {
                first.putIfAbsent(x.hour - world.hour, w);
            }
            x = trial(u, d, l, w);
            if (x != null) {
                second.putIfAbsent(x.hour - world.hour, w);
            }
        }
        for (int n : second.keySet()) {
            if (first.containsKey(n)) {
                return new int[] {n, first.get(n), second.get(n)}[what];
            }
        }
        return -1;
    }

    // ---- ways below

    boolean dangerous(TreeMap<Integer, Integer> f, int n, int c) {
        int bits = f.getOrDefault(n, 0);
        for (int i = 0; i < world.things.size(); i++) {
            if ((bits >> i & 1) == 1 && world.things.get(i).column == c) {
                return true;
            }
        }
        return false;
    }

    /** The first way of just n hours to each column that has one. */
    List<Map<Integer, String>> firstWays(int from) {
        TreeMap<Integer, Integer> f = future(world);
        List<Map<Integer, String>> all = new ArrayList<>();
        all.add(Map.of(from, "" + from));
        for (int n = 1; n <= 60; n++) {
            Map<Integer, String> now = new HashMap<>();
            for (Map.Entry<Integer, String> e : all.get(n - 1).entrySet()) {
                for (int c = e.getKey() - 1; c <= e.getKey() + 1; c++) {
                    if (c >= 0 && c < world.columns && !dangerous(f, n, c)) {
                        now.merge(c, e.getValue() + c, (a, b) -> a.compareTo(b) < 0 ? a : b);
                    }
                }
            }
            all.add(now);
        }
        return all;
    }

    int safeWay(int from, int to, int what) {
        column(from);
        column(to);
        if (what != 0) {
            within(what, 10, 70);
        }
        List<Map<Integer, String>> all = firstWays(from);
        for (int n = 0; n <= 60; n++) {
            String way = all.get(n).get(to);
            if (way != null) {
                return what == 0 ? n : what - 10 > n ? -1 : way.charAt(what - 10) - '0';
            }
        }
        return -1;
    }

    long safeWays(int from, int to, int n) {
        column(from);
        column(to);
        within(n, 0, 20);
        return waysFrom(future(world), from, to, 0, n, new HashMap<>());
    }

    long waysFrom(TreeMap<Integer, Integer> f, int c, int to, int hour, int n, Map<Integer, Long> known) {
        if (c < 0 || c >= world.columns || hour > 0 && dangerous(f, hour, c)) {
            return 0;
        }
        if (hour == n) {
            return c == to ? 1 : 0;
        }
        Long old = known.get(100 * hour + c);
        if (old != null) {
            return old;
        }
        long sum = 0;
        for (int d = -1; d <= 1; d++) {
            sum += waysFrom(f, c + d, to, hour + 1, n, known);
        }
        known.put(100 * hour + c, sum);
        return sum;
    }

    int safeIn(int from, int n) {
        column(from);
        within(n, 0, 60);
        int bits = 0;
        for (int c : firstWays(from).get(n).keySet()) {
            bits |= 1 << c;
        }
        return bits;
    }

    int shelter() {
        TreeMap<Integer, Integer> f = future(world);
        int best = 0;
        int most = -1;
        for (int c = 0; c < world.columns; c++) {
            int quiet = 0;
            while (quiet < 60 && !dangerous(f, quiet + 1, c)) {
                quiet++;
            }
            if (quiet > most) {
                most = quiet;
                best = c;
            }
        }
        return best;
    }

    int later(int w, int n) {
        walkerOf(w);
        within(n, 0, 8);
        int sum = 0;
        for (Map.Entry<Integer, Integer> e : future(world).entrySet()) {
            int c = world.walkerAt(w, world.hour + e.getKey() + n);
            for (int i = 0; i < world.things.size(); i++) {
                boolean hit = (e.getValue() >> i & 1) == 1 && world.things.get(i).column == c;
                sum += hit ? world.things.get(i).weight : 0;
            }
        }
        return sum;
    }

    // ---- who let go

    List<Integer> twos(int c, int l, int weight) {
        List<Integer> all = new ArrayList<>();
        for (int ago = 0; ago <= 60; ago++) {
            for (int held = 0; held <= 60; held++) {
                if (ago <= world.hour
                        && world.hangTime(held, weight, c, l, world.hour - ago, world.height(c)) == ago) {
                    all.add(100 * ago + held);
                }
            }
        }
        return all;
    }

    int letGoBy(int c, int l, int weight) {
        placeOf(c, l);
        within(weight, 1, 99);
        return twos(c, l, weight).size();
    }

    int letGoAt(int c, int l, int weight, int k) {
        placeOf(c, l);
        within(weight, 1, 99);
        within(k, 0, Integer.MAX_VALUE);
        List<Integer> all = twos(c, l, weight);
        return k < all.size() ? all.get(k) : -1;
    }

    int levels(int c, int weight, int ago, int held) {
        column(c);
        within(weight, 1, 99);
        within(ago, 0, 60);
        within(ago, 0, world.hour);
        within(held, 0, 60);
        int bits = 0;
        for (int l = 0; l < world.levels; l++) {
            if (twos(c, l, weight).contains(100 * ago + held)) {
                bits |= 1 << l;
            }
        }
        return bits;
    }

    // ---- trays, images

    int tray(int tray, int sort, int many) {
        anyTray(tray);
        within(sort, 0, 3);
        within(many, 0, 30);
        trays[tray] = new long[many];
        sorts[tray] = sort;
        return 0;
    }

    long write(int tray, int place, long v) {
        long[] row = filled(tray);
        if (place < 0 || place >= row.length) {
            throw new IndexOutOfBoundsException();
        }
        int drop = 64 - (8 << sorts[tray]);
        row[place] = v << drop >> drop;
        return row[place];
    }

    int copy(int tray) {
        long[] row = filled(tray);
        int n = 0;
        for (int t = 0; t < world.things.size() && t < row.length; t++) {
            write(tray, t, falls(t));
            n++;
        }
        return n;
    }

    static void imageOf(int i) {
        if (i < 0 || i > 2) {
            throw new NoSuchElementException();
        }
    }

    static ArrayDeque<World> copyOf(ArrayDeque<World> worlds) {
        ArrayDeque<World> all = new ArrayDeque<>();
        for (World w : worlds) {
            all.add(w.copy());
        }
        return all;
    }

    int image(int i) {
        imageOf(i);
        imageWorlds[i] = world.copy();
        imageUndone[i] = copyOf(undone);
        return 0;
    }

    int restore(int i) {
        imageOf(i);
        if (imageWorlds[i] == null) {
            throw new IllegalStateException();
        }
        world = imageWorlds[i].copy();
        undone = copyOf(imageUndone[i]);
        return 0;
    }

    int count(int what) {
        int[] states = new int[3];
        for (Thing t : world.things) {
            states[t.state]++;
        }
        int[] all = {world.lines, world.columns, world.levels, world.things.size(), states[0], states[1], states[2],
            world.rounds.size(), world.hour, undone.size(), tape.length(), world.sumHurt()};
        return what >= 0 && what < all.length ? all[what] : -1;
    }
}
