import java.util.NoSuchElementException;

/** A district in which things fall late, as ../shared/DOC.md tells it. */
public final class LateFalls {
    public static final int NONE = -1;

    private static final int TAPE_BYTES = 900;
    private static final int MOST_COLUMNS = 6;
    private static final int MOST_LEVELS = 9;
    private static final int MOST_THINGS = 8;
    private static final int MOST_WALKERS = 4;
    private static final int LONGEST_ROUND = 8;
    private static final int LONGEST_HANG = 999;
    private static final int LONGEST_WAIT = 60;
    private static final int LONGEST_WAY = 60;
    private static final int LONGEST_COUNTED_WAY = 20;
    private static final int MOST_AGO = 60;
    private static final int MOST_HELD_BY = 60;
    private static final int MOST_DEEDS = 10;
    private static final int MOST_TIMES = 30;
    private static final int TRAYS = 4;
    private static final int IMAGES = 3;
    private static final int SORTS = 4;
    private static final int TRAY_PLACES = 30;

    private static final int IS_HELD = 0;
    private static final int IS_HANGING = 1;
    private static final int IS_LYING = 2;

    private static final int WHY_NOT_THERE = 1;
    private static final int WHY_STATE = 2;
    private static final int WHY_PLACE = 3;

    private static final int TOLD_TAKING = 1000;
    private static final int TOLD_QUAKE = 2000;
    // The first number behind those of letting go: no deed has it.
    private static final int TOLD_NOTHING = 800;

    private static final int FAR = Integer.MAX_VALUE;

    private final byte[] tape = new byte[TAPE_BYTES];
    private int tapeLength;
    private int faultKind;
    private int faultPlace = NONE;
    private final Reader reader;
    private final Scene scene;
    private final History history;
    private final Forecast forecast;
    private final Ways ways = new Ways();
    private final int[] firstFalls = new int[LONGEST_WAIT + 1];
    private final Tray[] trays = new Tray[TRAYS];
    private final Image[] images = new Image[IMAGES];
    private int drawn;

    public LateFalls() {
        District empty = new District();
        reader = new Reader(empty);
        scene = new Scene(empty);
        history = new History(empty);
        forecast = new Forecast(empty);
        for (int i = 0; i < TRAYS; i++) {
            trays[i] = new Tray();
        }
    }

    // ---- the district

    public int feed(int a, int b, int c, int d, int e) {
        if (tapeLength + 20 > TAPE_BYTES) {
            return NONE;
        }
        putBytes(a);
        putBytes(b);
        putBytes(c);
        putBytes(d);
        putBytes(e);
        return tapeLength;
    }

    private void putBytes(int four) {
        for (int shift = 24; shift >= 0 && tapeLength < TAPE_BYTES; shift -= 8) {
            tape[tapeLength] = (byte) (four >>> shift);
            tapeLength++;
        }
    }

    public int district(int n) throws IllegalArgumentException {
        if (n < 0 || n > tapeLength) {
            throw new IllegalArgumentException("not so many bytes");
        }
        reader.read(tape, n);
        tapeLength = 0;
        faultKind = reader.fault;
        faultPlace = reader.place;
        if (faultKind != 0) {
            return -10 - faultKind;
        }
        scene.copyFrom(reader.start);
        history.forget();
        return scene.district.lines;
    }

    public int fault(int what) {
        if (what == 0) {
            return faultKind;
        }
        return what == 1 ? faultPlace : NONE;
    }

    public int thing(int t, int what) throws NoSuchElementException, IllegalArgumentException {
        needThing(t);
        int state = scene.state[t];
        switch (what) {
            case 0:
                return scene.district.weights[t];
            case 1:
                return state;
            case 2:
                return state == IS_HELD ? NONE : scene.column[t];
            case 3:
                return state == IS_HELD ? NONE : scene.level[t];
            case 4:
                return state == IS_HELD ? scene.hour - scene.time[t] : NONE;
            case 5:
                return state == IS_HANGING ? scene.time[t] - scene.hour : NONE;
            default:
                throw new IllegalArgumentException("no such what");
        }
    }

    public int walker(int w, int what) throws NoSuchElementException, IllegalArgumentException {
        needWalker(w);
        switch (what) {
            case 0:
                return scene.district.walkerColumn(w, scene.hour);
            case 1:
                return scene.hurt[w];
            case 2:
                return scene.district.roundLengths[w];
            default:
                throw new IllegalArgumentException("no such what");
        }
    }

    public int height(int c) throws NoSuchElementException {
        needColumn(c);
        return scene.lying(c);
    }

    public int at(int c, int l) throws NoSuchElementException {
        needPlace(c, l);
        return scene.thingAt(c, l);
    }

    public int hanging(int t, int c, int l, int held) throws NoSuchElementException, IllegalArgumentException {
        needThing(t);
        needPlace(c, l);
        needWithin(held, 0, LONGEST_HANG);
        District here = scene.district;
        return here.hangTime(held, here.weights[t], c, l, scene.hour, scene.lying(c));
    }

    private void needThing(int t) {
        if (t < 0 || t >= scene.district.things) {
            throw new NoSuchElementException("no such thing");
        }
    }

    private void needWalker(int w) {
        if (w < 0 || w >= scene.district.walkers) {
            throw new NoSuchElementException("no such walker");
        }
    }

    private void needColumn(int c) {
        if (c < 0 || c >= scene.district.columns) {
            throw new NoSuchElementException("no such column");
        }
    }

    private void needPlace(int c, int l) {
        if (!scene.district.hasPlace(c, l)) {
            throw new NoSuchElementException("no such place");
        }
    }

    private static void needWithin(int n, int least, int most) {
        if (n < least || n > most) {
            throw new IllegalArgumentException("out of its bounds");
        }
    }

    // ---- deeds

    public int letGo(int t, int c, int l) {
        int why = scene.whyNotLetGo(t, c, l);
        if (why != 0) {
            return -why;
        }
        history.keep(scene);
        return scene.release(t, c, l);
    }

    public int take(int t) {
        int why = scene.whyNotTake(t);
        if (why != 0) {
            return -why;
        }
        history.keep(scene);
        scene.pickUp(t);
        return scene.district.weights[t];
    }

    public int quake() {
        history.keep(scene);
        return scene.shake();
    }

    public int hours(int n) throws IllegalArgumentException {
        needWithin(n, 1, 99);
        history.keep(scene);
        return scene.passTo(scene.hour + n);
    }

    public int undo(int n) throws IllegalArgumentException {
        if (n < 1 || n > history.many) {
            throw new IllegalArgumentException("not so many deeds");
        }
        history.goBack(n, scene);
        return history.many;
    }

    public int judge(int tray, int what)
            throws NoSuchElementException, IllegalStateException, IllegalArgumentException {
        Tray told = filledTray(tray);
        needWithin(what, 0, 3);
        Scene trial = forecast.ahead;
        trial.copyFrom(scene);
        int place = NONE;
        int why = 0;
        for (int i = 0; i < told.many && why == 0; i++) {
            why = whyNot(trial, told.numbers[i]);
            if (why != 0) {
                place = i;
            } else {
                act(trial, told.numbers[i]);
            }
        }
        switch (what) {
            case 0:
                return place;
            case 1:
                return why;
            case 2:
                return trial.countOf(IS_LYING);
            default:
                return trial.totalHurt();
        }
    }

    public int perform(int tray) throws NoSuchElementException, IllegalStateException {
        Tray told = filledTray(tray);
        int done = 0;
        for (int i = 0; i < told.many; i++) {
            if (whyNot(scene, told.numbers[i]) != 0) {
                break;
            }
            history.keep(scene);
            act(scene, told.numbers[i]);
            done++;
        }
        return done;
    }

    public int season(int seed, int times) throws IllegalArgumentException {
        needWithin(times, 1, MOST_TIMES);
        drawn = seed;
        int done = 0;
        for (int i = 0; i < times; i++) {
            int deed = drawDeed();
            if (whyNot(scene, deed) == 0) {
                history.keep(scene);
                act(scene, deed);
                done++;
            }
        }
        return done;
    }

    private int drawDeed() {
        District here = scene.district;
        int sort = draw(4);
        if (sort < 2) {
            return NONE;
        }
        // Without things there is nothing more to draw, and nothing that can be.
        if (here.things == 0) {
            return TOLD_NOTHING;
        }
        int t = draw(here.things);
        if (sort == 3) {
            return TOLD_TAKING + t;
        }
        int c = draw(here.columns);
        return 100 * t + 10 * c + draw(here.levels);
    }

    private int draw(int modulo) {
        drawn = 1103515245 * drawn + 12345;
        return modulo > 0 ? (drawn >>> 16) % modulo : 0;
    }

    private static int whyNot(Scene scene, long told) {
        if (told == NONE || told == TOLD_QUAKE) {
            return 0;
        }
        if (told >= 0 && told < TOLD_NOTHING) {
            int deed = (int) told;
            return scene.whyNotLetGo(deed / 100, deed / 10 % 10, deed % 10);
        }
        if (told >= TOLD_TAKING && told < TOLD_TAKING + MOST_THINGS) {
            return scene.whyNotTake((int) told - TOLD_TAKING);
        }
        return WHY_NOT_THERE;
    }

    /** Only behind a whyNot() that answered 0. */
    private static void act(Scene scene, long told) {
        int deed = (int) told;
        if (deed == NONE) {
            int then = scene.hour + 1;
            scene.nextFall(then);
            scene.hour = then;
        } else if (deed == TOLD_QUAKE) {
            scene.shake();
        } else if (deed >= TOLD_TAKING) {
            scene.pickUp(deed - TOLD_TAKING);
        } else {
            scene.release(deed / 100, deed / 10 % 10, deed % 10);
        }
    }

    // ---- falls to come

    public int falls(int t) throws NoSuchElementException {
        needThing(t);
        forecast.look(scene);
        return forecast.fallOf(t);
    }

    public int lands(int t) throws NoSuchElementException {
        needThing(t);
        if (scene.state[t] != IS_HANGING) {
            return NONE;
        }
        forecast.look(scene);
        return forecast.ahead.level[t];
    }

    public int fallIn(int n) throws IllegalArgumentException {
        needWithin(n, 1, LONGEST_HANG);
        forecast.look(scene);
        int bits = 0;
        for (int i = 0; i < forecast.events; i++) {
            if (forecast.when[i] == n) {
                bits |= forecast.fallen[i];
            }
        }
        return bits;
    }

    public int next() {
        forecast.look(scene);
        return forecast.events > 0 ? forecast.when[0] : NONE;
    }

    public int busiest() {
        forecast.look(scene);
        int most = 0;
        int hour = NONE;
        for (int i = 0; i < forecast.events; i++) {
            int many = Integer.bitCount(forecast.fallen[i]);
            if (many > most) {
                most = many;
                hour = forecast.when[i];
            }
        }
        return hour;
    }

    public int frees(int t) throws NoSuchElementException, IllegalStateException {
        needThing(t);
        if (scene.state[t] != IS_HANGING) {
            throw new IllegalStateException("it doesn't hang");
        }
        return scene.falling(scene.column[t], 1 << t) & ~(1 << t);
    }

    public int heightIn(int c, int n) throws NoSuchElementException, IllegalArgumentException {
        needColumn(c);
        needWithin(n, 0, LONGEST_HANG);
        Scene then = forecast.ahead;
        then.copyFrom(scene);
        then.passTo(scene.hour + n);
        return then.lying(c);
    }

    public int hurtIn(int w) throws NoSuchElementException {
        needWalker(w);
        forecast.look(scene);
        for (int i = 0; i < forecast.events; i++) {
            int hour = scene.hour + forecast.when[i];
            if (forecast.weightIn(i, scene.district.walkerColumn(w, hour)) > 0) {
                return forecast.when[i];
            }
        }
        return NONE;
    }

    public int hurts(int w) throws NoSuchElementException {
        needWalker(w);
        forecast.look(scene);
        return forecast.hurtOf(w, 0, NONE);
    }

    public int spares(int w, int c) throws NoSuchElementException {
        needWalker(w);
        needColumn(c);
        forecast.look(scene);
        // What falls in one column never changes what falls in another one.
        return forecast.hurtOf(w, 0, c);
    }

    // ---- waits

    public int fallsBy(int t, int c, int l, int w)
            throws NoSuchElementException, IllegalStateException, IllegalArgumentException {
        needHeldAndPlace(t, c, l);
        needWithin(w, 0, LONGEST_WAIT);
        return forecast.fallAfter(scene, t, c, l, w);
    }

    public int waitFor(int t, int c, int l, int n)
            throws NoSuchElementException, IllegalStateException, IllegalArgumentException {
        needHeldAndPlace(t, c, l);
        needWithin(n, 0, LONGEST_HANG);
        for (int wait = 0; wait <= LONGEST_WAIT; wait++) {
            if (forecast.fallAfter(scene, t, c, l, wait) == n) {
                return wait;
            }
        }
        return NONE;
    }

    public int waitSafe(int t, int c, int l) throws NoSuchElementException, IllegalStateException {
        needHeldAndPlace(t, c, l);
        for (int wait = 0; wait <= LONGEST_WAIT; wait++) {
            int fall = forecast.fallAfter(scene, t, c, l, wait);
            if (fall >= 0 && scene.district.walkersIn(c, scene.hour + fall) == 0) {
                return wait;
            }
        }
        return NONE;
    }

    public int waitHurt(int t, int c, int l, int w) throws NoSuchElementException, IllegalStateException {
        needThing(t);
        needPlace(c, l);
        needWalker(w);
        needHeld(t);
        for (int wait = 0; wait <= LONGEST_WAIT; wait++) {
            int fall = forecast.fallAfter(scene, t, c, l, wait);
            if (fall >= 0 && scene.district.walkerColumn(w, scene.hour + fall) == c) {
                return wait;
            }
        }
        return NONE;
    }

    public int place(int t, boolean late) throws NoSuchElementException, IllegalStateException {
        needThing(t);
        needHeld(t);
        int best = NONE;
        int bestFall = 0;
        for (int c = 0; c < scene.district.columns; c++) {
            for (int l = 0; l < scene.district.levels; l++) {
                int fall = forecast.fallAfter(scene, t, c, l, 0);
                boolean better = best == NONE || (late ? fall > bestFall : fall < bestFall);
                if (fall >= 0 && better) {
                    best = 10 * c + l;
                    bestFall = fall;
                }
            }
        }
        return best;
    }

    public int worst(int t, int what)
            throws NoSuchElementException, IllegalStateException, IllegalArgumentException {
        needThing(t);
        needHeld(t);
        needWithin(what, 0, 1);
        int best = NONE;
        int most = 0;
        for (int c = 0; c < scene.district.columns; c++) {
            for (int l = 0; l < scene.district.levels; l++) {
                int fall = forecast.fallAfter(scene, t, c, l, 0);
                if (fall < 0) {
                    continue;
                }
                Scene then = forecast.ahead;
                int hurt = then.weightOf(then.fallen, c) * then.district.walkersIn(c, then.hour);
                if (best == NONE || hurt > most) {
                    best = 10 * c + l;
                    most = hurt;
                }
            }
        }
        return what == 0 ? best : most;
    }

    public int both(int t, int u, int c, int d, int l, int what)
            throws NoSuchElementException, IllegalStateException, IllegalArgumentException {
        needThing(t);
        needThing(u);
        needPlace(c, l);
        needPlace(d, l);
        needHeld(t);
        needHeld(u);
        if (t == u || c == d || what < 0 || what > 2) {
            throw new IllegalArgumentException("both one, one column, or no such what");
        }
        for (int wait = 0; wait <= LONGEST_WAIT; wait++) {
            firstFalls[wait] = forecast.fallAfter(scene, t, c, l, wait);
        }
        int soonest = NONE;
        int firstWait = NONE;
        int secondWait = NONE;
        for (int wait = 0; wait <= LONGEST_WAIT; wait++) {
            int fall = forecast.fallAfter(scene, u, d, l, wait);
            int other = firstWaitFor(fall);
            if (fall >= 0 && other >= 0 && (soonest == NONE || fall < soonest)) {
                soonest = fall;
                firstWait = other;
                secondWait = wait;
            }
        }
        if (what == 0) {
            return soonest;
        }
        return what == 1 ? firstWait : secondWait;
    }

    private int firstWaitFor(int fall) {
        for (int wait = 0; wait <= LONGEST_WAIT; wait++) {
            if (firstFalls[wait] == fall) {
                return wait;
            }
        }
        return NONE;
    }

    private void needHeld(int t) {
        if (scene.state[t] != IS_HELD) {
            throw new IllegalStateException("it isn't held");
        }
    }

    private void needHeldAndPlace(int t, int c, int l) {
        needThing(t);
        needPlace(c, l);
        needHeld(t);
    }

    // ---- ways below

    public int safeWay(int from, int to, int what) throws NoSuchElementException, IllegalArgumentException {
        needColumn(from);
        needColumn(to);
        if (what != 0 && (what < 10 || what > 10 + LONGEST_WAY)) {
            throw new IllegalArgumentException("no such what");
        }
        forecast.look(scene);
        ways.look(forecast, from);
        int hours = ways.soonest(to);
        if (what == 0 || hours == NONE) {
            return hours;
        }
        return ways.columnOnWay(from, to, hours, what - 10);
    }

    public long safeWays(int from, int to, int n) throws NoSuchElementException, IllegalArgumentException {
        needColumn(from);
        needColumn(to);
        needWithin(n, 0, LONGEST_COUNTED_WAY);
        forecast.look(scene);
        ways.look(forecast, from);
        return ways.howMany(from, to, n);
    }

    public int safeIn(int from, int n) throws NoSuchElementException, IllegalArgumentException {
        needColumn(from);
        needWithin(n, 0, LONGEST_WAY);
        forecast.look(scene);
        ways.look(forecast, from);
        return ways.reached[n];
    }

    public int shelter() {
        forecast.look(scene);
        int best = 0;
        int most = NONE;
        for (int c = 0; c < scene.district.columns; c++) {
            int quiet = LONGEST_WAY;
            for (int i = 0; i < forecast.events; i++) {
                if (forecast.weightIn(i, c) > 0) {
                    quiet = Math.min(quiet, forecast.when[i] - 1);
                }
            }
            if (quiet > most) {
                most = quiet;
                best = c;
            }
        }
        return best;
    }

    public int later(int w, int n) throws NoSuchElementException, IllegalArgumentException {
        needWalker(w);
        needWithin(n, 0, 8);
        forecast.look(scene);
        return forecast.hurtOf(w, n, NONE);
    }

    // ---- who let go

    public int letGoBy(int c, int l, int weight) throws NoSuchElementException, IllegalArgumentException {
        needPlace(c, l);
        needWithin(weight, 1, 99);
        int many = 0;
        for (int ago = 0; ago <= MOST_AGO && ago <= scene.hour; ago++) {
            for (int held = 0; held <= MOST_HELD_BY; held++) {
                if (isLetGoBy(c, l, weight, ago, held)) {
                    many++;
                }
            }
        }
        return many;
    }

    public int letGoAt(int c, int l, int weight, int k) throws NoSuchElementException, IllegalArgumentException {
        needPlace(c, l);
        needWithin(weight, 1, 99);
        needWithin(k, 0, FAR);
        int many = 0;
        for (int ago = 0; ago <= MOST_AGO && ago <= scene.hour; ago++) {
            for (int held = 0; held <= MOST_HELD_BY; held++) {
                if (isLetGoBy(c, l, weight, ago, held)) {
                    if (many == k) {
                        return 100 * ago + held;
                    }
                    many++;
                }
            }
        }
        return NONE;
    }

    public int levels(int c, int weight, int ago, int held)
            throws NoSuchElementException, IllegalArgumentException {
        needColumn(c);
        needWithin(weight, 1, 99);
        needWithin(ago, 0, Math.min(MOST_AGO, scene.hour));
        needWithin(held, 0, MOST_HELD_BY);
        int bits = 0;
        for (int l = 0; l < scene.district.levels; l++) {
            if (isLetGoBy(c, l, weight, ago, held)) {
                bits |= 1 << l;
            }
        }
        return bits;
    }

    private boolean isLetGoBy(int c, int l, int weight, int ago, int held) {
        return scene.district.hangTime(held, weight, c, l, scene.hour - ago, scene.lying(c)) == ago;
    }

    // ---- trays, images

    public void tray(int tray, int sort, int many) throws NoSuchElementException, IllegalArgumentException {
        Tray row = anyTray(tray);
        if (sort < 0 || sort >= SORTS || many < 0 || many > TRAY_PLACES) {
            throw new IllegalArgumentException("no such sort, or not so many");
        }
        row.lay(sort, many);
    }

    public long write(int tray, int place, long v)
            throws NoSuchElementException, IllegalStateException, IndexOutOfBoundsException {
        Tray row = filledTray(tray);
        if (place < 0 || place >= row.many) {
            throw new IndexOutOfBoundsException("no such place");
        }
        return row.put(place, v);
    }

    public int copy(int tray) throws NoSuchElementException, IllegalStateException {
        Tray row = filledTray(tray);
        forecast.look(scene);
        int many = Math.min(row.many, scene.district.things);
        for (int t = 0; t < many; t++) {
            row.put(t, forecast.fallOf(t));
        }
        return many;
    }

    public void image(int i) throws NoSuchElementException {
        needImage(i);
        if (images[i] == null) {
            images[i] = new Image(scene.district);
        }
        images[i].scene.copyFrom(scene);
        images[i].history.copyFrom(history);
    }

    public void restore(int i) throws NoSuchElementException, IllegalStateException {
        needImage(i);
        Image image = images[i];
        if (image == null) {
            throw new IllegalStateException("no image was made");
        }
        scene.copyFrom(image.scene);
        history.copyFrom(image.history);
    }

    public int count(int what) {
        District here = scene.district;
        switch (what) {
            case 0:
                return here.lines;
            case 1:
                return here.columns;
            case 2:
                return here.levels;
            case 3:
                return here.things;
            case 4:
                return scene.countOf(IS_HELD);
            case 5:
                return scene.countOf(IS_HANGING);
            case 6:
                return scene.countOf(IS_LYING);
            case 7:
                return here.walkers;
            case 8:
                return scene.hour;
            case 9:
                return history.many;
            case 10:
                return tapeLength;
            case 11:
                return scene.totalHurt();
            default:
                return NONE;
        }
    }

    private Tray anyTray(int tray) {
        if (tray < 0 || tray >= TRAYS) {
            throw new NoSuchElementException("no such tray");
        }
        return trays[tray];
    }

    private Tray filledTray(int tray) {
        Tray row = anyTray(tray);
        if (row.sort == NONE) {
            throw new IllegalStateException("the tray is missing");
        }
        return row;
    }

    private static void needImage(int i) {
        if (i < 0 || i >= IMAGES) {
            throw new NoSuchElementException("no such image");
        }
    }

    /** A law as steps of a stack: numbers, what is given, operators. */
    private static final class Law {
        static final int GIVEN = 1000;
        static final int MOST_GIVEN = 6;
        static final int NOT = 2000;
        static final int ADD = 2001;
        static final int SUBTRACT = 2002;
        static final int MULTIPLY = 2003;
        static final int EQUAL = 2004;
        static final int LESS = 2005;
        static final int MORE = 2006;
        static final int AND = 2007;
        static final int OR = 2008;
        // Six of not [ ( within one another leave fewer than 20 numbers open at once.
        static final int STACK = 32;
        static final long BOUND = 1000000;

        final int[] steps;
        final int[] given = new int[MOST_GIVEN];
        final int[] stack = new int[STACK];

        Law(int[] code, int length) {
            steps = new int[Math.max(0, Math.min(length, code.length))];
            System.arraycopy(code, 0, steps, 0, steps.length);
        }

        /** Of what stands in given; a truth is 1 or 0. */
        int value() {
            int top = 0;
            for (int i = 0; i < steps.length; i++) {
                int step = steps[i];
                if (step == NOT) {
                    if (top >= 1) {
                        stack[top - 1] = 1 - stack[top - 1];
                    }
                } else if (step > NOT) {
                    if (top >= 2) {
                        top--;
                        long joined = join(step, stack[top - 1], stack[top]);
                        stack[top - 1] = (int) Math.max(-BOUND, Math.min(BOUND, joined));
                    }
                } else if (top < STACK) {
                    stack[top] = step < GIVEN ? step : given[Math.min(step - GIVEN, MOST_GIVEN - 1)];
                    top++;
                }
            }
            return top > 0 ? stack[0] : 0;
        }

        private static long join(int step, long a, long b) {
            switch (step) {
                case ADD:
                    return a + b;
                case SUBTRACT:
                    return a - b;
                case MULTIPLY:
                    return a * b;
                case EQUAL:
                    return a == b ? 1 : 0;
                case LESS:
                    return a < b ? 1 : 0;
                case MORE:
                    return a > b ? 1 : 0;
                case AND:
                    return a != 0 && b != 0 ? 1 : 0;
                default:
                    return a != 0 || b != 0 ? 1 : 0;
            }
        }
    }

    /** What the text tells and no deed changes; never changed once it is read, so images share it. */
    private static final class District {
        int lines;
        int columns = 1;
        int levels = 1;
        int things;
        int walkers;
        final int[] weights = new int[MOST_THINGS];
        final int[] rounds = new int[MOST_WALKERS * LONGEST_ROUND];
        final int[] roundLengths = new int[MOST_WALKERS];
        Law hangs;
        Law frees;

        boolean hasPlace(int c, int l) {
            return c >= 0 && c < columns && l >= 0 && l < levels;
        }

        int walkerColumn(int w, int hour) {
            if (w < 0 || w >= walkers || roundLengths[w] <= 0) {
                return NONE;
            }
            return rounds[w * LONGEST_ROUND + Math.floorMod(hour, roundLengths[w])];
        }

        int walkersIn(int c, int hour) {
            int many = 0;
            for (int w = 0; w < walkers; w++) {
                if (walkerColumn(w, hour) == c) {
                    many++;
                }
            }
            return many;
        }

        /** The bounds are those of what the law tells: without one it hangs as long as it was held. */
        int hangTime(int held, int weight, int c, int l, int hour, int lying) {
            if (hangs == null) {
                return held;
            }
            int[] given = hangs.given;
            given[0] = held;
            given[1] = weight;
            given[2] = c;
            given[3] = l;
            given[4] = Math.floorMod(hour, 24);
            given[5] = lying;
            return Math.max(0, Math.min(LONGEST_HANG, hangs.value()));
        }
    }

    /** How all is in an hour, of things and walkers. */
    private static final class Scene {
        District district;
        int hour;
        final int[] state = new int[MOST_THINGS];
        final int[] column = new int[MOST_THINGS];
        final int[] level = new int[MOST_THINGS];
        // The hour since which it is held, or in which it falls by itself.
        final int[] time = new int[MOST_THINGS];
        final int[] hurt = new int[MOST_WALKERS];
        // What fell in the latest hour in which something fell, or by the latest deed.
        int fallen;

        Scene(District told) {
            district = told;
        }

        void begin(District told) {
            district = told;
            hour = 0;
            fallen = 0;
            for (int w = 0; w < MOST_WALKERS; w++) {
                hurt[w] = 0;
            }
        }

        void copyFrom(Scene other) {
            district = other.district;
            hour = other.hour;
            fallen = other.fallen;
            System.arraycopy(other.state, 0, state, 0, MOST_THINGS);
            System.arraycopy(other.column, 0, column, 0, MOST_THINGS);
            System.arraycopy(other.level, 0, level, 0, MOST_THINGS);
            System.arraycopy(other.time, 0, time, 0, MOST_THINGS);
            System.arraycopy(other.hurt, 0, hurt, 0, MOST_WALKERS);
        }

        int lying(int c) {
            int many = 0;
            for (int t = 0; t < district.things; t++) {
                if (state[t] == IS_LYING && column[t] == c) {
                    many++;
                }
            }
            return many;
        }

        int thingAt(int c, int l) {
            for (int t = 0; t < district.things; t++) {
                if (state[t] != IS_HELD && column[t] == c && level[t] == l) {
                    return t;
                }
            }
            return NONE;
        }

        int countOf(int wanted) {
            int many = 0;
            for (int t = 0; t < district.things; t++) {
                if (state[t] == wanted) {
                    many++;
                }
            }
            return many;
        }

        int totalHurt() {
            int sum = 0;
            for (int w = 0; w < district.walkers; w++) {
                sum += hurt[w];
            }
            return sum;
        }

        int weightOf(int bits, int c) {
            int sum = 0;
            for (int t = 0; t < district.things; t++) {
                if ((bits >> t & 1) != 0 && column[t] == c) {
                    sum += district.weights[t];
                }
            }
            return sum;
        }

        boolean isFree(int c, int l) {
            return l >= lying(c) && thingAt(c, l) == NONE;
        }

        int whyNotLetGo(int t, int c, int l) {
            if (t < 0 || t >= district.things || !district.hasPlace(c, l)) {
                return WHY_NOT_THERE;
            }
            if (state[t] != IS_HELD) {
                return WHY_STATE;
            }
            return isFree(c, l) ? 0 : WHY_PLACE;
        }

        int whyNotTake(int t) {
            if (t < 0 || t >= district.things) {
                return WHY_NOT_THERE;
            }
            if (state[t] == IS_HELD) {
                return WHY_STATE;
            }
            boolean buried = state[t] == IS_LYING && level[t] + 1 < lying(column[t]);
            return buried ? WHY_PLACE : 0;
        }

        /** Only behind a whyNotLetGo() that answered 0. */
        int release(int t, int c, int l) {
            int hang = district.hangTime(hour - time[t], district.weights[t], c, l, hour, lying(c));
            state[t] = IS_HANGING;
            column[t] = c;
            level[t] = l;
            time[t] = hour + hang;
            fallen = 0;
            if (hang == 0) {
                drop(c, 1 << t);
            }
            return hang;
        }

        /** Only behind a whyNotTake() that answered 0. */
        void pickUp(int t) {
            state[t] = IS_HELD;
            time[t] = hour;
        }

        int shake() {
            fallen = 0;
            for (int c = 0; c < district.columns; c++) {
                drop(c, dueIn(c, FAR));
            }
            return Integer.bitCount(fallen);
        }

        int passTo(int then) {
            int many = 0;
            // Each step lays a thing down at least, so there are not more steps than things.
            for (int i = 0; i < MOST_THINGS; i++) {
                if (!nextFall(then)) {
                    break;
                }
                many += Integer.bitCount(fallen);
            }
            hour = then;
            return many;
        }

        /** Goes on to the next hour in which something falls, if it is not behind the latest one. */
        boolean nextFall(int latest) {
            int soonest = FAR;
            for (int t = 0; t < district.things; t++) {
                if (state[t] == IS_HANGING) {
                    soonest = Math.min(soonest, time[t]);
                }
            }
            if (soonest == FAR || soonest > latest) {
                return false;
            }
            hour = soonest;
            fallen = 0;
            for (int c = 0; c < district.columns; c++) {
                drop(c, dueIn(c, hour));
            }
            return true;
        }

        private int dueIn(int c, int latest) {
            int bits = 0;
            for (int t = 0; t < district.things; t++) {
                if (state[t] == IS_HANGING && column[t] == c && time[t] <= latest) {
                    bits |= 1 << t;
                }
            }
            return bits;
        }

        private void drop(int c, int bits) {
            int all = falling(c, bits);
            int floor = lying(c);
            for (int l = 0; l < district.levels; l++) {
                int t = thingAt(c, l);
                if (t >= 0 && (all >> t & 1) != 0 && state[t] == IS_HANGING) {
                    state[t] = IS_LYING;
                    level[t] = floor;
                    floor++;
                }
            }
            int weight = weightOf(all, c);
            for (int w = 0; w < district.walkers; w++) {
                if (district.walkerColumn(w, hour) == c) {
                    hurt[w] += weight;
                }
            }
            fallen |= all;
        }

        /** All that fall in a column with those of the bits. */
        int falling(int c, int bits) {
            int all = bits;
            if (bits == 0) {
                return 0;
            }
            int floor = lying(c);
            for (int round = 0; round < MOST_THINGS; round++) {
                int before = all;
                for (int t = 0; t < district.things; t++) {
                    if (state[t] == IS_HANGING && column[t] == c && (all >> t & 1) == 0
                            && (level[t] < floor + Integer.bitCount(all) || isFreed(t, all))) {
                        all |= 1 << t;
                    }
                }
                if (all == before) {
                    break;
                }
            }
            return all;
        }

        private boolean isFreed(int lower, int bits) {
            Law law = district.frees;
            for (int t = 0; t < district.things; t++) {
                if ((bits >> t & 1) == 0 || level[t] <= level[lower]) {
                    continue;
                }
                if (law == null) {
                    return true;
                }
                law.given[0] = district.weights[t];
                law.given[1] = district.weights[lower];
                law.given[2] = level[t];
                law.given[3] = level[lower];
                law.given[4] = Math.floorMod(hour, 24);
                if (law.value() != 0) {
                    return true;
                }
            }
            return false;
        }
    }

    /** The scenes ahead of the latest deeds. */
    private static final class History {
        final Scene[] scenes = new Scene[MOST_DEEDS];
        int first;
        int many;

        History(District told) {
            for (int i = 0; i < MOST_DEEDS; i++) {
                scenes[i] = new Scene(told);
            }
        }

        void forget() {
            first = 0;
            many = 0;
        }

        void keep(Scene scene) {
            scenes[(first + many) % MOST_DEEDS].copyFrom(scene);
            if (many < MOST_DEEDS) {
                many++;
            } else {
                first = (first + 1) % MOST_DEEDS;
            }
        }

        void goBack(int n, Scene scene) {
            if (n < 1 || n > many) {
                return;
            }
            many -= n;
            scene.copyFrom(scenes[(first + many) % MOST_DEEDS]);
        }

        void copyFrom(History other) {
            first = other.first;
            many = other.many;
            for (int i = 0; i < MOST_DEEDS; i++) {
                scenes[i].copyFrom(other.scenes[i]);
            }
        }
    }

    /** The hours to come in which something falls. */
    private static final class Forecast {
        final Scene ahead;
        int from;
        int events;
        final int[] when = new int[MOST_THINGS];
        final int[] fallen = new int[MOST_THINGS];

        Forecast(District told) {
            ahead = new Scene(told);
        }

        void look(Scene now) {
            ahead.copyFrom(now);
            from = now.hour;
            events = 0;
            for (int i = 0; i < MOST_THINGS; i++) {
                if (!ahead.nextFall(FAR)) {
                    break;
                }
                when[i] = ahead.hour - now.hour;
                fallen[i] = ahead.fallen;
                events = i + 1;
            }
        }

        int fallOf(int t) {
            for (int i = 0; i < events; i++) {
                if ((fallen[i] >> t & 1) != 0) {
                    return when[i];
                }
            }
            return NONE;
        }

        int weightIn(int event, int c) {
            if (event < 0 || event >= events) {
                return 0;
            }
            return ahead.weightOf(fallen[event], c);
        }

        /** Of one who is where the walker is so much later; of one column alone, unless that is NONE. */
        int hurtOf(int w, int hoursLater, int onlyColumn) {
            int sum = 0;
            for (int i = 0; i < events; i++) {
                int c = ahead.district.walkerColumn(w, from + when[i] + hoursLater);
                if (onlyColumn == NONE || onlyColumn == c) {
                    sum += weightIn(i, c);
                }
            }
            return sum;
        }

        /** In how many hours it falls, let go after a wait; ahead is then as in that hour. */
        int fallAfter(Scene now, int t, int c, int l, int wait) {
            ahead.copyFrom(now);
            int then = now.hour + wait;
            for (int i = 0; i < MOST_THINGS; i++) {
                if (!ahead.nextFall(then)) {
                    break;
                }
            }
            ahead.hour = then;
            if (ahead.whyNotLetGo(t, c, l) != 0) {
                return NONE;
            }
            ahead.release(t, c, l);
            for (int i = 0; i < MOST_THINGS && ahead.state[t] == IS_HANGING; i++) {
                ahead.nextFall(FAR);
            }
            return ahead.hour - now.hour;
        }
    }

    /** Safe ways below from one column. */
    private static final class Ways {
        private int all;
        private final int[] danger = new int[LONGEST_WAY + 1];
        final int[] reached = new int[LONGEST_WAY + 1];
        private final int[] leading = new int[LONGEST_WAY + 1];
        private final long[] many = new long[MOST_COLUMNS];
        private final long[] before = new long[MOST_COLUMNS];

        void look(Forecast forecast, int from) {
            int columns = forecast.ahead.district.columns;
            all = (1 << columns) - 1;
            for (int n = 0; n <= LONGEST_WAY; n++) {
                danger[n] = 0;
            }
            for (int i = 0; i < forecast.events; i++) {
                int n = forecast.when[i];
                for (int c = 0; c < columns && n > 0 && n <= LONGEST_WAY; c++) {
                    if (forecast.weightIn(i, c) > 0) {
                        danger[n] |= 1 << c;
                    }
                }
            }
            reached[0] = 1 << from;
            for (int n = 1; n <= LONGEST_WAY; n++) {
                reached[n] = near(reached[n - 1]) & ~danger[n];
            }
        }

        private int near(int bits) {
            return (bits | bits << 1 | bits >> 1) & all;
        }

        int soonest(int to) {
            for (int n = 0; n <= LONGEST_WAY; n++) {
                if ((reached[n] >> to & 1) != 0) {
                    return n;
                }
            }
            return NONE;
        }

        int columnOnWay(int from, int to, int hours, int k) {
            if (k < 0 || k > hours || hours > LONGEST_WAY) {
                return NONE;
            }
            leading[hours] = 1 << to;
            for (int n = hours - 1; n >= 0; n--) {
                leading[n] = near(leading[n + 1]) & ~danger[n];
            }
            int column = from;
            for (int n = 1; n <= k; n++) {
                column = Integer.numberOfTrailingZeros(near(1 << column) & leading[n]);
            }
            return column;
        }

        long howMany(int from, int to, int n) {
            for (int c = 0; c < MOST_COLUMNS; c++) {
                many[c] = c == from ? 1 : 0;
            }
            for (int hour = 1; hour <= n && hour <= LONGEST_WAY; hour++) {
                System.arraycopy(many, 0, before, 0, MOST_COLUMNS);
                for (int c = 0; c < MOST_COLUMNS; c++) {
                    boolean safe = (all >> c & 1) != 0 && (danger[hour] >> c & 1) == 0;
                    many[c] = safe ? before[c] + beside(c - 1) + beside(c + 1) : 0;
                }
            }
            return to >= 0 && to < MOST_COLUMNS ? many[to] : 0;
        }

        private long beside(int c) {
            return c >= 0 && c < MOST_COLUMNS ? before[c] : 0;
        }
    }

    /** A row of numbers cut to a sort; without a sort it is missing. */
    private static final class Tray {
        int sort = NONE;
        int many;
        final long[] numbers = new long[TRAY_PLACES];

        void lay(int newSort, int newMany) {
            sort = newSort;
            many = newMany;
            for (int i = 0; i < TRAY_PLACES; i++) {
                numbers[i] = 0;
            }
        }

        long put(int place, long v) {
            if (place < 0 || place >= many || place >= TRAY_PLACES) {
                return 0;
            }
            numbers[place] = cut(v);
            return numbers[place];
        }

        private long cut(long v) {
            switch (sort) {
                case 0:
                    return (byte) v;
                case 1:
                    return (short) v;
                case 2:
                    return (int) v;
                default:
                    return v;
            }
        }
    }

    /** All but the tape, the fault and the trays. */
    private static final class Image {
        final Scene scene;
        final History history;

        Image(District told) {
            scene = new Scene(told);
            history = new History(told);
        }
    }

    /** The tokens of a text, up to the first place where none begins. */
    private static final class Tokens {
        static final int END = 0;
        static final int BAD = 1;
        static final int UNKNOWN_WORD = 199;
        static final int FALL = 200;
        static final int THING = 201;
        static final int WALKER = 202;
        static final int HANGS = 203;
        static final int FREES = 204;
        static final int HOUR = 205;
        static final int HELD = 206;
        static final int UP = 207;
        static final int FOR = 208;
        static final int ON = 209;
        static final int NOT = 210;
        static final int AND = 211;
        static final int OR = 212;
        static final int WEIGHT = 213;
        static final int COLUMN = 214;
        static final int LEVEL = 215;
        static final int LYING = 216;
        static final int WA = 217;
        static final int WB = 218;
        static final int LA = 219;
        static final int LB = 220;
        // A number's kind is this and the number.
        static final int NUMBER = 1000;
        // In the order of their kinds, each with a blank behind it.
        static final String WORDS = "fall thing walker hangs frees hour held up for on not and or weight column level lying wa wb la lb ";
        static final String SIGNS = ";:+-*()[]=<>";
        static final int MOST_DIGITS = 3;

        private final int[] kinds = new int[TAPE_BYTES + 1];
        private final int[] places = new int[TAPE_BYTES + 1];
        private int many;
        private int current;
        int kind;
        int start;

        void scan(byte[] text, int length) {
            many = 0;
            int at = 0;
            int last = NONE;
            for (int i = 0; i < length && at < length && last != BAD; i++) {
                int sign = text[at] & 255;
                int end = at + 1;
                if (isWithin(sign, 'a', 'z')) {
                    end = runEnd(text, at, length, 'a', 'z');
                    last = wordKind(text, at, end);
                } else if (isWithin(sign, '0', '9')) {
                    end = runEnd(text, at, length, '0', '9');
                    last = end - at > MOST_DIGITS ? BAD : NUMBER + numberAt(text, at, end);
                } else if (sign == 10 || sign == 32) {
                    at = end;
                    continue;
                } else {
                    last = SIGNS.indexOf((char) sign) >= 0 ? sign : BAD;
                }
                append(last, at);
                at = end;
            }
            if (last != BAD) {
                append(END, length);
            }
            current = 0;
            kind = kinds[0];
            start = places[0];
        }

        private void append(int newKind, int place) {
            if (many < kinds.length) {
                kinds[many] = newKind;
                places[many] = place;
                many++;
            }
        }

        private static boolean isWithin(int sign, char first, char last) {
            return sign >= first && sign <= last;
        }

        private static int runEnd(byte[] text, int from, int length, char first, char last) {
            int end = from;
            while (end < length && isWithin(text[end], first, last)) {
                end++;
            }
            return end;
        }

        private static int numberAt(byte[] text, int from, int end) {
            int number = 0;
            for (int i = from; i < end; i++) {
                number = 10 * number + text[i] - '0';
            }
            return number;
        }

        private static int wordKind(byte[] text, int from, int end) {
            int found = FALL;
            int at = from;
            boolean same = true;
            for (int i = 0; i < WORDS.length(); i++) {
                char sign = WORDS.charAt(i);
                if (sign != ' ') {
                    same = same && at < end && text[at] == sign;
                    at++;
                } else if (same && at == end) {
                    return found;
                } else {
                    found++;
                    at = from;
                    same = true;
                }
            }
            return UNKNOWN_WORD;
        }

        void advance() {
            if (current + 1 < many) {
                current++;
                kind = kinds[current];
                start = places[current];
            }
        }

        /** Nothing fits from here on, so that a reader comes to its end. */
        void stop() {
            many = 0;
            kind = BAD;
        }

        boolean isNumber() {
            return kind >= NUMBER;
        }
    }

    /** Reads a text up to its first fault. */
    private static final class Reader {
        static final int FAULT_NO_TOKEN = 1;
        static final int FAULT_CANT_STAND = 2;
        static final int FAULT_BOUNDS = 3;
        static final int FAULT_TOO_MANY = 4;
        static final int DEEPEST = 6;

        final Scene start;
        int fault;
        int place;
        private District draft;
        private final Tokens tokens = new Tokens();
        private final int[] code = new int[TAPE_BYTES];
        private int codeLength;
        private boolean ofHangs;

        Reader(District empty) {
            start = new Scene(empty);
            draft = empty;
        }

        /** Leaves the fault, or without one the scene that the text tells in start. */
        void read(byte[] text, int length) {
            draft = new District();
            start.begin(draft);
            fault = 0;
            place = NONE;
            tokens.scan(text, length);
            fallLine();
            for (int i = 0; i < TAPE_BYTES && fault == 0 && tokens.kind != Tokens.END; i++) {
                switch (tokens.kind) {
                    case Tokens.THING:
                        thingLine();
                        break;
                    case Tokens.WALKER:
                        walkerLine();
                        break;
                    case Tokens.HANGS:
                        hangsLine();
                        break;
                    case Tokens.FREES:
                        freesLine();
                        break;
                    case Tokens.HOUR:
                        tokens.advance();
                        start.hour = number(0, 999);
                        tokens.advance();
                        break;
                    default:
                        refuse(FAULT_CANT_STAND);
                        break;
                }
                lineEnd();
            }
            countFromHour();
        }

        private void refuse(int kind) {
            if (fault == 0) {
                fault = tokens.kind == Tokens.BAD ? FAULT_NO_TOKEN : kind;
                place = tokens.start;
                tokens.stop();
            }
        }

        private void expect(int kind) {
            if (tokens.kind == kind) {
                tokens.advance();
            } else {
                refuse(FAULT_CANT_STAND);
            }
        }

        /** The number that stands here, the least one at a fault; it stays, as more may be wrong with it. */
        private int number(int least, int most) {
            if (!tokens.isNumber()) {
                refuse(FAULT_CANT_STAND);
                return least;
            }
            int told = tokens.kind - Tokens.NUMBER;
            if (told < least || told > most) {
                refuse(FAULT_BOUNDS);
                return least;
            }
            return told;
        }

        private void lineEnd() {
            expect(';');
            draft.lines++;
        }

        private void fallLine() {
            expect(Tokens.FALL);
            draft.columns = number(1, MOST_COLUMNS);
            tokens.advance();
            draft.levels = number(1, MOST_LEVELS);
            tokens.advance();
            lineEnd();
        }

        private void thingLine() {
            int t = draft.things;
            if (t >= MOST_THINGS) {
                refuse(FAULT_TOO_MANY);
                return;
            }
            tokens.advance();
            draft.weights[t] = number(1, 99);
            tokens.advance();
            switch (tokens.kind) {
                case Tokens.HELD:
                    heldThing(t);
                    break;
                case Tokens.UP:
                    hangingThing(t);
                    break;
                case Tokens.ON:
                    lyingThing(t);
                    break;
                default:
                    refuse(FAULT_CANT_STAND);
                    break;
            }
            draft.things++;
        }

        private void heldThing(int t) {
            tokens.advance();
            start.state[t] = IS_HELD;
            start.time[t] = number(0, 99);
            tokens.advance();
        }

        private void hangingThing(int t) {
            tokens.advance();
            int c = number(0, draft.columns - 1);
            tokens.advance();
            int l = number(0, draft.levels - 1);
            if (!start.isFree(c, l)) {
                refuse(FAULT_BOUNDS);
            }
            tokens.advance();
            expect(Tokens.FOR);
            start.state[t] = IS_HANGING;
            start.column[t] = c;
            start.level[t] = l;
            start.time[t] = number(1, 99);
            tokens.advance();
        }

        private void lyingThing(int t) {
            tokens.advance();
            int c = number(0, draft.columns - 1);
            int l = start.lying(c);
            if (l >= draft.levels || start.thingAt(c, l) != NONE) {
                refuse(FAULT_BOUNDS);
            }
            tokens.advance();
            start.state[t] = IS_LYING;
            start.column[t] = c;
            start.level[t] = l;
            start.time[t] = 0;
        }

        private void walkerLine() {
            int w = draft.walkers;
            if (w >= MOST_WALKERS) {
                refuse(FAULT_TOO_MANY);
                return;
            }
            tokens.advance();
            for (int i = 0; i < LONGEST_ROUND && (i == 0 || tokens.isNumber()); i++) {
                draft.rounds[w * LONGEST_ROUND + i] = number(0, draft.columns - 1);
                draft.roundLengths[w] = i + 1;
                tokens.advance();
            }
            draft.walkers++;
        }

        private void hangsLine() {
            tokens.advance();
            expect(':');
            codeLength = 0;
            ofHangs = true;
            sum(0);
            if (fault == 0) {
                draft.hangs = new Law(code, codeLength);
            }
        }

        private void freesLine() {
            tokens.advance();
            expect(':');
            codeLength = 0;
            ofHangs = false;
            truth(0);
            if (fault == 0) {
                draft.frees = new Law(code, codeLength);
            }
        }

        private void emit(int step) {
            if (codeLength < code.length) {
                code[codeLength] = step;
                codeLength++;
            }
        }

        private boolean isTooDeep(int depth) {
            if (depth >= DEEPEST) {
                refuse(FAULT_TOO_MANY);
            }
            return depth >= DEEPEST;
        }

        private void truth(int depth) {
            boolean more = true;
            for (int i = 0; i < TAPE_BYTES && more; i++) {
                unit(depth);
                for (int j = 0; j < TAPE_BYTES && tokens.kind == Tokens.AND; j++) {
                    tokens.advance();
                    unit(depth);
                    emit(Law.AND);
                }
                if (i > 0) {
                    emit(Law.OR);
                }
                more = tokens.kind == Tokens.OR;
                if (more) {
                    tokens.advance();
                }
            }
        }

        private void unit(int depth) {
            if (tokens.kind == Tokens.NOT) {
                if (!isTooDeep(depth)) {
                    tokens.advance();
                    unit(depth + 1);
                    emit(Law.NOT);
                }
            } else if (tokens.kind == '[') {
                if (!isTooDeep(depth)) {
                    tokens.advance();
                    truth(depth + 1);
                    expect(']');
                }
            } else {
                sum(depth);
                int step = comparison(tokens.kind);
                if (step == NONE) {
                    refuse(FAULT_CANT_STAND);
                } else {
                    tokens.advance();
                    sum(depth);
                    emit(step);
                }
            }
        }

        private static int comparison(int kind) {
            switch (kind) {
                case '=':
                    return Law.EQUAL;
                case '<':
                    return Law.LESS;
                case '>':
                    return Law.MORE;
                default:
                    return NONE;
            }
        }

        private void sum(int depth) {
            int step = NONE;
            boolean more = true;
            for (int i = 0; i < TAPE_BYTES && more; i++) {
                atom(depth);
                for (int j = 0; j < TAPE_BYTES && tokens.kind == '*'; j++) {
                    tokens.advance();
                    atom(depth);
                    emit(Law.MULTIPLY);
                }
                if (step != NONE) {
                    emit(step);
                }
                more = tokens.kind == '+' || tokens.kind == '-';
                if (more) {
                    step = tokens.kind == '+' ? Law.ADD : Law.SUBTRACT;
                    tokens.advance();
                }
            }
        }

        private void atom(int depth) {
            if (tokens.kind == '(') {
                if (!isTooDeep(depth)) {
                    tokens.advance();
                    sum(depth + 1);
                    expect(')');
                }
                return;
            }
            int step = tokens.isNumber() ? tokens.kind - Tokens.NUMBER : given(tokens.kind);
            if (step == NONE) {
                refuse(FAULT_CANT_STAND);
            } else {
                emit(step);
                tokens.advance();
            }
        }

        private int given(int kind) {
            switch (kind) {
                case Tokens.HELD:
                    return ofHangs ? Law.GIVEN : NONE;
                case Tokens.WEIGHT:
                    return ofHangs ? Law.GIVEN + 1 : NONE;
                case Tokens.COLUMN:
                    return ofHangs ? Law.GIVEN + 2 : NONE;
                case Tokens.LEVEL:
                    return ofHangs ? Law.GIVEN + 3 : NONE;
                case Tokens.HOUR:
                    return Law.GIVEN + 4;
                case Tokens.LYING:
                    return ofHangs ? Law.GIVEN + 5 : NONE;
                case Tokens.WA:
                    return ofHangs ? NONE : Law.GIVEN;
                case Tokens.WB:
                    return ofHangs ? NONE : Law.GIVEN + 1;
                case Tokens.LA:
                    return ofHangs ? NONE : Law.GIVEN + 2;
                case Tokens.LB:
                    return ofHangs ? NONE : Law.GIVEN + 3;
                default:
                    return NONE;
            }
        }

        /** The text may tell its hour behind its things. */
        private void countFromHour() {
            for (int t = 0; t < draft.things; t++) {
                if (start.state[t] == IS_HELD) {
                    start.time[t] = start.hour - start.time[t];
                } else if (start.state[t] == IS_HANGING) {
                    start.time[t] = start.hour + start.time[t];
                }
            }
        }
    }
}
