import java.util.Random;

/** All promises: random runs of calls, whose answers must be those of PlainModel. */
public final class RandomRunsTest {
    private final Random random;
    private final LateFalls x = new LateFalls();
    private final PlainModel m = new PlainModel();
    private final StringBuilder log = new StringBuilder();
    private boolean wrong = false;

    private RandomRunsTest(long seed) {
        random = new Random(seed);
    }

    public static void main(String[] args) {
        int runs = args.length > 0 ? Integer.parseInt(args[0]) : 400;
        long first = args.length > 1 ? Long.parseLong(args[1]) : 1;
        int calls = 0;
        for (long seed = first; seed < first + runs; seed++) {
            RandomRunsTest run = new RandomRunsTest(seed);
            calls += run.go();
            if (run.wrong) {
                System.out.println("seed " + seed + ":\n" + run.log);
                System.exit(1);
            }
        }
        System.out.println(calls + " calls answered as the plain model does");
    }

    private int go() {
        int calls = 0;
        if (random.nextInt(8) > 0) {
            tell(new RandomText(random).district());
        }
        if (random.nextBoolean()) {
            layTrays();
        }
        // Held for more than 999 hours; seldom, as the plain model goes through each of them.
        if (random.nextInt(25) == 0) {
            for (int i = 8 + random.nextInt(6); i > 0; i--) {
                same("hours(99)", () -> x.hours(99), () -> m.hours(99));
            }
        }
        while (calls < 300 && !wrong) {
            calls++;
            int pick = random.nextInt(100);
            if (pick < 2) {
                tell(new RandomText(random).district());
            } else if (pick < 6) {
                tell(new RandomText(random).broken());
            } else if (pick < 30) {
                deed();
            } else {
                question();
            }
        }
        return calls;
    }

    private void layTrays() {
        for (int i = 0; i < 4; i++) {
            int tray = i;
            int many = random.nextInt(9);
            same("tray(" + tray + ", " + (3 - tray) + ", " + many + ")",
                    () -> { x.tray(tray, 3 - tray, many); return 0; }, () -> m.tray(tray, 3 - tray, many));
        }
    }

    private void same(String call, Check.Call ours, Check.Call plain) {
        String got = answer(ours);
        String want = answer(plain);
        log.append(call).append(" -> ").append(got).append('\n');
        if (!got.equals(want)) {
            wrong = true;
            log.append("  due is ").append(want).append('\n');
        }
    }

    private static String answer(Check.Call call) {
        String thrown = "";
        long got = 0;
        try {
            got = call.run();
        } catch (RuntimeException e) {
            thrown = e.getClass().getSimpleName();
        }
        return thrown.isEmpty() ? "" + got : thrown;
    }

    private void tell(String text) {
        log.append("text ").append(text).append('\n');
        for (int i = 0; i < text.length(); i += 20) {
            int[] fives = new int[5];
            for (int k = 0; k < 20; k++) {
                int sign = i + k < text.length() ? text.charAt(i + k) : random.nextInt(256);
                fives[k / 4] = fives[k / 4] << 8 | sign;
            }
            same("feed", () -> x.feed(fives[0], fives[1], fives[2], fives[3], fives[4]),
                    () -> m.feed(fives[0], fives[1], fives[2], fives[3], fives[4]));
        }
        int n = random.nextInt(20) == 0 ? random.nextInt(text.length() + 40) - 5 : text.length();
        same("district(" + n + ")", () -> x.district(n), () -> m.district(n));
        same("fault(0)", () -> x.fault(0), () -> m.fault(0));
        same("fault(1)", () -> x.fault(1), () -> m.fault(1));
    }

    /** Mostly one of the first n numbers, seldom one beside them. */
    private int below(int n) {
        int pick = random.nextInt(40);
        return pick == 0 ? -1 : pick == 1 ? n : random.nextInt(Math.max(1, n));
    }

    private int thing() {
        return below(m.world.things.size());
    }

    private int heldThing() {
        for (int i = 0; i < 20; i++) {
            int t = thing();
            if (t >= 0 && t < m.world.things.size() && m.world.things.get(t).state == 0) {
                return t;
            }
        }
        return thing();
    }

    private int column() {
        return below(m.world.columns);
    }

    private int level() {
        return below(m.world.levels);
    }

    private int walker() {
        return below(m.world.rounds.size());
    }

    private void deed() {
        int t = random.nextInt(4) == 0 ? thing() : heldThing();
        int c = column();
        int l = level();
        switch (random.nextInt(16)) {
            case 0: case 1: case 2: case 3: case 4:
                same("letGo(" + t + ", " + c + ", " + l + ")", () -> x.letGo(t, c, l), () -> m.letGo(t, c, l));
                break;
            case 5: case 6: {
                int u = thing();
                same("take(" + u + ")", () -> x.take(u), () -> m.take(u));
                break;
            }
            case 7:
                if (random.nextInt(4) == 0) {
                    same("quake()", () -> x.quake(), () -> m.quake());
                }
                break;
            case 8: case 9: case 10: {
                int n = random.nextInt(10) == 0 ? below(100) : 1 + random.nextInt(4);
                same("hours(" + n + ")", () -> x.hours(n), () -> m.hours(n));
                break;
            }
            case 11: {
                int n = random.nextInt(3) == 0 ? below(11) : 1 + random.nextInt(2);
                same("undo(" + n + ")", () -> x.undo(n), () -> m.undo(n));
                break;
            }
            case 12:
                if (random.nextInt(3) == 0) {
                    int seed = random.nextInt();
                    int times = below(31);
                    same("season(" + seed + ", " + times + ")", () -> x.season(seed, times),
                            () -> m.season(seed, times));
                }
                break;
            default:
                trayOrImage();
                break;
        }
    }

    private void trayOrImage() {
        int tray = below(4);
        int i = below(3);
        switch (random.nextInt(9)) {
            case 0: {
                int sort = below(4);
                int many = below(31);
                same("tray(" + tray + ", " + sort + ", " + many + ")", () -> { x.tray(tray, sort, many); return 0; },
                        () -> m.tray(tray, sort, many));
                break;
            }
            case 1: case 2: case 3:
                fillTray(tray);
                break;
            case 4:
                same("perform(" + tray + ")", () -> x.perform(tray), () -> m.perform(tray));
                break;
            case 5: case 6:
                same("copy(" + tray + ")", () -> x.copy(tray), () -> m.copy(tray));
                break;
            case 7:
                same("image(" + i + ")", () -> { x.image(i); return 0; }, () -> m.image(i));
                break;
            default:
                same("restore(" + i + ")", () -> { x.restore(i); return 0; }, () -> m.restore(i));
                break;
        }
    }

    private void fillTray(int tray) {
        for (int k = 0; k < 6; k++) {
            int place = below(6);
            long v;
            switch (random.nextInt(7)) {
                case 0:
                    v = -1;
                    break;
                case 1: case 2: case 3:
                    v = 100 * heldThing() + 10 * column() + level();
                    break;
                case 4:
                    v = 1000 + thing();
                    break;
                case 5:
                    v = 2000;
                    break;
                default:
                    v = random.nextLong() >> random.nextInt(64);
                    break;
            }
            long number = v;
            same("write(" + tray + ", " + place + ", " + v + ")", () -> x.write(tray, place, number),
                    () -> m.write(tray, place, number));
        }
        for (int k = 0; k < 5; k++) {
            int what = k;
            same("judge(" + tray + ", " + what + ")", () -> x.judge(tray, what), () -> m.judge(tray, what));
        }
    }

    private void question() {
        int sort = random.nextInt(5);
        if (sort == 0) {
            standing();
        } else if (sort == 1) {
            toCome();
        } else if (sort == 2) {
            waits();
        } else if (sort == 3) {
            ways();
        } else {
            letGoBy();
        }
    }

    private void standing() {
        int t = thing();
        int w = walker();
        int c = column();
        int l = level();
        int what = below(12);
        same("count(" + what + ")", () -> x.count(what), () -> m.count(what));
        int ofThing = below(6);
        same("thing(" + t + ", " + ofThing + ")", () -> x.thing(t, ofThing), () -> m.thing(t, ofThing));
        int ofWalker = below(3);
        same("walker(" + w + ", " + ofWalker + ")", () -> x.walker(w, ofWalker), () -> m.walker(w, ofWalker));
        same("height(" + c + ")", () -> x.height(c), () -> m.height(c));
        same("at(" + c + ", " + l + ")", () -> x.at(c, l), () -> m.at(c, l));
        int held = below(random.nextBoolean() ? 1000 : 30);
        same("hanging(" + t + ", " + c + ", " + l + ", " + held + ")", () -> x.hanging(t, c, l, held),
                () -> m.hanging(t, c, l, held));
    }

    private void toCome() {
        int t = thing();
        int w = walker();
        int c = column();
        int n = below(random.nextBoolean() ? 1000 : 12);
        same("falls(" + t + ")", () -> x.falls(t), () -> m.falls(t));
        same("lands(" + t + ")", () -> x.lands(t), () -> m.lands(t));
        same("fallIn(" + n + ")", () -> x.fallIn(n), () -> m.fallIn(n));
        int soon = m.next();
        same("fallIn(" + soon + ")", () -> x.fallIn(soon), () -> m.fallIn(soon));
        same("next()", () -> x.next(), () -> m.next());
        same("busiest()", () -> x.busiest(), () -> m.busiest());
        same("frees(" + t + ")", () -> x.frees(t), () -> m.frees(t));
        same("heightIn(" + c + ", " + n + ")", () -> x.heightIn(c, n), () -> m.heightIn(c, n));
        same("hurtIn(" + w + ")", () -> x.hurtIn(w), () -> m.hurtIn(w));
        same("hurts(" + w + ")", () -> x.hurts(w), () -> m.hurts(w));
        same("spares(" + w + ", " + c + ")", () -> x.spares(w, c), () -> m.spares(w, c));
    }

    private void waits() {
        int t = heldThing();
        int u = heldThing();
        int c = column();
        int d = random.nextInt(4) == 0 ? column() : c + 1 < m.world.columns ? c + 1 : c - 1;
        int l = level();
        int w = walker();
        int wait = below(61);
        String p = "(" + t + ", " + c + ", " + l;
        same("fallsBy" + p + ", " + wait + ")", () -> x.fallsBy(t, c, l, wait), () -> m.fallsBy(t, c, l, wait));
        int n = below(random.nextInt(5) == 0 ? 1000 : 20);
        same("waitFor" + p + ", " + n + ")", () -> x.waitFor(t, c, l, n), () -> m.waitFor(t, c, l, n));
        same("waitSafe" + p + ")", () -> x.waitSafe(t, c, l), () -> m.waitSafe(t, c, l));
        same("waitHurt" + p + ", " + w + ")", () -> x.waitHurt(t, c, l, w), () -> m.waitHurt(t, c, l, w));
        boolean late = random.nextBoolean();
        same("place(" + t + ", " + late + ")", () -> x.place(t, late), () -> m.place(t, late));
        int what = below(2);
        same("worst(" + t + ", " + what + ")", () -> x.worst(t, what), () -> m.worst(t, what));
        int ofBoth = below(3);
        same("both(" + t + ", " + u + ", " + c + ", " + d + ", " + l + ", " + ofBoth + ")",
                () -> x.both(t, u, c, d, l, ofBoth), () -> m.both(t, u, c, d, l, ofBoth));
    }

    private void ways() {
        int from = column();
        int to = column();
        int n = below(21);
        int k = below(61);
        int what = random.nextInt(3) == 0 ? random.nextInt(75) - 2 : 10 + random.nextInt(8);
        same("safeWay(" + from + ", " + to + ", 0)", () -> x.safeWay(from, to, 0), () -> m.safeWay(from, to, 0));
        same("safeWay(" + from + ", " + to + ", " + what + ")", () -> x.safeWay(from, to, what),
                () -> m.safeWay(from, to, what));
        same("safeWays(" + from + ", " + to + ", " + n + ")", () -> x.safeWays(from, to, n),
                () -> m.safeWays(from, to, n));
        same("safeIn(" + from + ", " + k + ")", () -> x.safeIn(from, k), () -> m.safeIn(from, k));
        same("shelter()", () -> x.shelter(), () -> m.shelter());
        int w = walker();
        int late = below(9);
        same("later(" + w + ", " + late + ")", () -> x.later(w, late), () -> m.later(w, late));
    }

    private void letGoBy() {
        int c = column();
        int l = level();
        int weight = 1 + below(99);
        int k = below(5);
        int ago = below(random.nextBoolean() ? 61 : 6);
        int held = below(random.nextBoolean() ? 61 : 6);
        same("letGoBy(" + c + ", " + l + ", " + weight + ")", () -> x.letGoBy(c, l, weight),
                () -> m.letGoBy(c, l, weight));
        same("letGoAt(" + c + ", " + l + ", " + weight + ", " + k + ")", () -> x.letGoAt(c, l, weight, k),
                () -> m.letGoAt(c, l, weight, k));
        if (random.nextInt(4) == 0) {
            same("levels(" + c + ", " + weight + ", " + ago + ", " + held + ")", () -> x.levels(c, weight, ago, held),
                    () -> m.levels(c, weight, ago, held));
        }
    }
}
