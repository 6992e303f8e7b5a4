import java.util.Random;

/** Runs of chance calls on the class and on the slow model, which must answer alike (promises 1 to 38). */
public final class ModelTest {
    private static final String[] NAMES = {"legs", "mood", "tired", "sweet", "wet", "far", "year"};
    private static final String[] SIGNS = {"+", "-", "*", "/", "<", "<=", "=", "<>", ">=", ">", " and ", " or "};
    private static final String[] ODD = {"<", ">", "=", "(", ")", ";", " ", "\n", "not ", "9", "0", "law ", "land ", "x",
        "!", "\t", "toolong ", "rain ", "seed ", "parish ", "cake ", "beat ", "child ", "99999999999", "wet", "A", "\u00e9"};
    private static int wrong;
    private static int calls;
    private final Random random;
    private final BeatenBounds bounds = new BeatenBounds();
    private final Model model = new Model();
    private final StringBuilder told = new StringBuilder();

    private ModelTest(long seed) {
        random = new Random(seed);
    }

    public static void main(String[] args) {
        int runs = args.length > 0 ? Integer.parseInt(args[0]) : 400;
        for (int seed = 0; seed < runs && wrong < 10; seed++) {
            new ModelTest(seed).run();
        }
        System.out.println(calls + " calls, " + wrong + " answers unlike the model's");
        if (wrong != 0) {
            System.exit(1);
        }
    }

    private void same(String call, long got, long want) {
        calls++;
        told.append(call).append(" = ").append(got).append('\n');
        if (got != want && wrong++ < 10) {
            System.out.println(told + "due is " + want + "\n");
        }
    }

    private int any(int least, int most) {
        return least + random.nextInt(most - least + 1);
    }

    /** Mostly 0 .. most, now and then a step beyond or far off. */
    private int about(int most) {
        switch (random.nextInt(25)) {
            case 0:
                return most + 1;
            case 1:
                return -1;
            case 2:
                return random.nextBoolean() ? Integer.MAX_VALUE : Integer.MIN_VALUE;
            default:
                return any(0, Math.max(most, 0));
        }
    }

    private String law(int depth) {
        if (depth == 0 || random.nextInt(4) == 0) {
            return random.nextInt(3) == 0 ? String.valueOf(random.nextInt(6) == 0 ? any(0, 9999) : any(0, 9))
                : NAMES[random.nextInt(NAMES.length)];
        }
        String sides = law(depth - 1) + SIGNS[random.nextInt(SIGNS.length)] + law(depth - 1);
        if (random.nextInt(6) == 0) {
            return "not " + sides;
        }
        return random.nextInt(3) > 0 ? "(" + sides + ")" : sides;
    }

    private String text() {
        StringBuilder text = new StringBuilder();
        int size = 20;
        if (random.nextInt(5) > 0) {
            size = any(5, random.nextInt(4) == 0 ? 40 : 14);
            text.append("land ").append(size).append(";");
        }
        int parishes = any(1, 4);
        int children = any(1, 6);
        for (int k = 0; k < parishes; k++) {
            text.append("parish p").append((char) ('a' + k)).append(' ').append(any(0, size - 1)).append(' ')
                .append(any(0, size - 1)).append(random.nextInt(9) == 0 ? " \n;" : ";");
        }
        for (int k = 0; k < children; k++) {
            text.append("child c").append((char) ('a' + k)).append(' ').append(any(1, random.nextInt(3) == 0 ? 30 : 8))
                .append(' ').append(any(0, 9)).append(';');
        }
        int beatings = random.nextInt(6) == 0 ? any(0, 13) : any(1, 9);
        for (int k = 0; k < beatings; k++) {
            text.append("beat p").append((char) ('a' + any(0, parishes - 1))).append(" c")
                .append((char) ('a' + any(0, children - 1))).append(' ').append(any(0, 3)).append(' ')
                .append(any(0, random.nextInt(4) == 0 ? 99 : 6)).append(';');
        }
        for (int k = any(0, 4); k > 0; k--) {
            text.append("cake p").append((char) ('a' + any(0, parishes - 1))).append(' ').append(any(0, 3)).append(' ')
                .append(any(1, 9)).append(';');
        }
        if (random.nextInt(5) > 0) {
            int[] rains = {0, 100, 49, 50, any(1, 99), any(1, 99)};
            text.append("rain ").append(rains[random.nextInt(rains.length)]).append(';');
        }
        if (random.nextBoolean()) {
            text.append("seed ").append(any(0, 99999)).append(';');
        }
        String[] rules = {"walk", "quarl", "grow"};
        for (String rule : rules) {
            if (random.nextBoolean()) {
                text.append("law ").append(rule).append(' ').append(law(any(0, 4))).append(';');
            }
        }
        return text.toString();
    }

    private String spoiled(String text) {
        StringBuilder spoiled = new StringBuilder(text);
        for (int k = any(1, 2); k > 0 && spoiled.length() > 0; k--) {
            int at = random.nextInt(spoiled.length());
            switch (random.nextInt(4)) {
                case 0:
                    spoiled.insert(at, ODD[random.nextInt(ODD.length)]);
                    break;
                case 1:
                    spoiled.deleteCharAt(at);
                    break;
                case 2:
                    spoiled.setLength(at);
                    break;
                default:
                    int from = random.nextInt(at + 1);
                    spoiled.append(spoiled.substring(from, Math.min(at, from + 40)));
            }
        }
        return spoiled.toString();
    }

    private void tell(String text) {
        told.append(text).append('\n');
        for (int[] f : Texts.feeds(text)) {
            same("feed", bounds.feed(f[0], f[1], f[2], f[3], f[4]), model.feed(f));
        }
        same("text", bounds.text(text.length()), model.text(text.length()));
        same("fault(0)", bounds.fault(0), model.fault);
        same("fault(1)", bounds.fault(1), model.place);
    }

    private void run() {
        for (int k = any(0, 5); k > 0; k--) {
            tell(spoiled(text()));
        }
        tell(text());
        if (random.nextInt(12) == 0) {
            age();
        }
        for (int k = any(20, 120); k > 0; k--) {
            call();
        }
        for (int what = -1; what <= 13; what++) {
            same("count(" + what + ")", bounds.count(what), model.count(what));
        }
    }

    /** Years up to about the last one that may be, some of them left for the calls behind. */
    private void age() {
        for (int k = any(47, 49); k > 0; k--) {
            same("go 200", bounds.go(200), model.go(200));
        }
        for (int k = any(0, 12); k > 0; k--) {
            int n = about(any(1, 99));
            same("go " + n, bounds.go(n), model.go(n));
        }
    }

    private void call() {
        int p = about(model.parishes() - 1);
        int q = about(model.parishes() - 1);
        int c = about(model.children() - 1);
        int w = about(3);
        int row = about(model.tale.size - 1);
        int column = about(model.tale.size - 1);
        String args = "(p " + p + " q " + q + " c " + c + " w " + w + " cell " + row + " " + column + ")";
        if (random.nextInt(15) == 0) {
            onTape();
        } else if (random.nextInt(3) == 0) {
            act(p, c, w, args);
        } else if (random.nextBoolean()) {
            askNow(p, q, c, w, row, column, args);
        } else {
            askFurther(p, q, c, row, column, args);
        }
    }

    /** In the midst of a run: a text with a fault leaves all as it is, a text without one begins anew. */
    private void onTape() {
        int what = about(12);
        switch (random.nextInt(6)) {
            case 0:
                int[] five = {0x20202020, 0x0a0a2020, random.nextBoolean() ? 0x20202020 : random.nextInt(), 0x20202020,
                    0x20202020};
                same("feed " + five[2], bounds.feed(five[0], five[1], five[2], five[3], five[4]), model.feed(five));
                break;
            case 1:
                int n = random.nextInt(3) == 0 ? about(model.tape.size()) : random.nextBoolean() ? -1 : 701;
                same("text " + n, bounds.text(n), model.text(n));
                break;
            case 2:
                // What lies on the tape already stands ahead of it.
                tell(random.nextInt(3) == 0 ? text() : spoiled(text()));
                break;
            case 3:
                int due = what == 0 ? model.fault : what == 1 ? model.place : Model.NONE;
                same("fault(" + what + ")", bounds.fault(what), due);
                break;
            default:
                same("count(" + what + ")", bounds.count(what), model.count(what));
        }
    }

    private void act(int p, int c, int w, String args) {
        int n = random.nextInt(6) == 0 ? about(200) : about(6);
        int size = about(9);
        int far = about(8);
        switch (random.nextInt(9)) {
            case 0:
            case 1:
                same("beat" + args, bounds.beat(p, c, w), model.beat(p, c, w));
                break;
            case 2:
                same("bake " + size + args, bounds.bake(p, w, size) ? 1 : 0, model.bake(p, w, size) ? 1 : 0);
                break;
            case 3:
            case 4:
                same("carry " + far + args, bounds.carry(p, w, far), model.carry(p, w, far));
                break;
            case 5:
                same("go " + n, bounds.go(n), model.go(n));
                break;
            case 6:
                same("undo", bounds.undo(), model.undo());
                break;
            case 7:
                same("keep", bounds.keep(), model.keep());
                break;
            default:
                same("back", bounds.back(), model.back());
        }
    }

    private void askNow(int p, int q, int c, int w, int row, int column, String args) {
        int what = about(7);
        int low = about(2);
        switch (random.nextInt(17)) {
            case 0:
                same("parish " + what + args, parish(p, what), model.parish(p, what));
                break;
            case 1:
                same("child " + low + args, bounds.child(c, low), model.child(c, low));
                break;
            case 2:
                same("cake" + args, bounds.cake(p, w), model.cake(p, w));
                break;
            case 3:
                same("owners" + args, bounds.owners(row, column), model.owners(row, column));
                break;
            case 4:
                same("overlap" + args, bounds.overlap(p, q), model.overlap(p, q));
                break;
            case 5:
                same("taken", bounds.taken(), model.taken());
                break;
            case 6:
                same("disputed", bounds.disputed(), model.disputed());
                break;
            case 7:
                int one = low == 1 ? p : c;
                int other = low == 1 ? q : p;
                same("law " + low + args, bounds.law(low, one, other, w), model.law(low, one, other, w));
                break;
            case 8:
                same("cut " + low + args, bounds.cut(p, q, low), model.cut(p, q, low));
                break;
            case 9:
                same("realms", bounds.realms(), model.realms());
                break;
            case 10:
                same("colours", bounds.colours(), model.colours());
                break;
            case 11:
                same("rests" + args, bounds.rests(p, q), model.rests(p, q));
                break;
            case 12:
                same("rest " + low + args, bounds.rest(p, q, low), model.rest(p, q, low));
                break;
            case 13:
                same("laid " + what % 6 + args, bounds.laid(p, what % 6), model.laid(p, what % 6));
                break;
            case 14:
                same("cakeFor" + args, bounds.cakeFor(p, c, w, row, column), model.cakeFor(p, c, w, row, column));
                break;
            case 15:
                int n = about(6);
                same("dry " + n + " " + low % 3, bounds.dry(n, low % 3), model.dry(n, low % 3));
                break;
            default:
                int letters = Texts.letters((random.nextBoolean() ? "p" : "c") + (char) ('a' + any(0, 4)));
                same("named " + low + " " + letters, bounds.named(low, letters), model.named(low, letters));
        }
    }

    private void askFurther(int p, int q, int c, int row, int column, String args) {
        int n = random.nextInt(8) == 0 ? about(200) : about(12);
        int what = about(3);
        int i = random.nextBoolean() ? p : c;
        boolean is = random.nextInt(3) == 0;
        switch (random.nextInt(12)) {
            case 0:
            case 1:
                same("ahead " + n + " " + what + " " + i, bounds.ahead(n, what, i), model.ahead(n, what, i));
                break;
            case 2:
                same("when" + args, bounds.when(p, row, column), model.when(p, row, column));
                break;
            case 3:
            case 4:
                int years = random.nextInt(6) == 0 ? about(61) : any(1, 9);
                same("see " + years + " " + is + args, bounds.see(years, p, row, column, is),
                    model.see(years, p, row, column, is));
                break;
            case 5:
                int seen = about(model.sights.size());
                same("strike " + seen, bounds.strike(seen), model.strike(seen));
                break;
            case 6:
                int by = about(model.sights.size());
                same("known " + by, bounds.known(by) ? 1 : 0, model.known(by) ? 1 : 0);
                break;
            case 7:
                same("legsOf" + args, bounds.legsOf(c), model.legsOf(c));
                break;
            case 8:
                if (random.nextInt(4) == 0) {
                    same("ask" + args + what % 3, bounds.ask(c, p, what % 3), model.ask(c, p, what % 3));
                }
                break;
            case 9:
                int seed = about(Integer.MAX_VALUE - 1);
                int times = about(12);
                int area = about(random.nextInt(9) == 0 ? 9999 : 40);
                same("chance " + seed + " " + times + " " + area + args, bounds.chance(seed, times, p, area),
                    model.chance(seed, times, p, area));
                break;
            default:
                int other = about(4);
                int who = other == 2 ? c : random.nextInt(9) == 0 ? c : 0;
                same("tried " + other + " " + who + " " + n, bounds.tried(other, who, n), model.tried(other, who, n));
        }
    }

    private int parish(int parish, int what) {
        int thrown = Whole.thrown(bounds, parish, what);
        return thrown == 0 ? bounds.parish(parish, what) : -99 - thrown;
    }
}
