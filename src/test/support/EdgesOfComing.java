/** The edges of what comes, what is tried, what chance brings, and of promises 18 to 21, 33 and 34. */
final class EdgesOfComing {
    private static final String FIVE = "land 40;parish p 20 20;parish q 0 0;child a 9 0;child b 4 0;cake p 1 2;"
        + "beat p a 1 0;beat p a 2 0;beat p b 0 1;";

    private EdgesOfComing() {
    }

    static void run() {
        ahead();
        when();
        laid();
        cakes();
        tried();
        aheadByCall();
        whenByCall();
        laidByCall();
        cakeFor();
        chance();
        chanceRefused();
        triedByCall();
    }

    private static void ahead() {
        Doc.terms("AHEAD for n YEARS as it goes: AREA of a PARISH then, QUARREL more, LEGS of a CHILD then, "
            + "OVERLAPS of all pairs in sum then.");
        String text = "land 40;parish p 20 0;parish q 20 9;parish r 20 11;child c 8 0;child d 3 0;law grow 1;"
            + "beat p c 1 1;beat p c 1 3;beat r d 3 3;law walk legs;";
        // In year 1 c has 9: p has the columns 0 .. 9. In year 3 c has 11, d has 6: p 0 .. 11, r 5 .. 11.
        BeatenBounds x = Texts.of(text);
        int[] areas = {1, 1, 10, 10, 12, 12};
        int[] overlaps = {0, 0, 1, 1, 9, 9};
        int[] quarrels = {0, 0, 1, 2, 11, 20};
        for (int n = 0; n < 6; n++) {
            Due.is("area in " + n, x.ahead(n, 0, 0), areas[n]);
            Due.is("overlaps in " + n, x.ahead(n, 3, 0), overlaps[n]);
            Due.is("quarrel in " + n, x.ahead(n, 1, 0), quarrels[n]);
            Due.is("legs in " + n, x.ahead(n, 2, 0), 8 + n);
            Due.is("legs of d in " + n, x.ahead(n, 2, 1), 3 + n);
        }
        x.go(4);
        Due.is("quarrel so far", x.count(6), 11);
        Due.is("quarrel more, not in all", x.ahead(1, 1, 0), 9);
        BeatenBounds full = EdgesOfYears.crowd("");
        full.carry(1, 0, 39);
        full.carry(1, 3, 39);
        // OVERLAPS 1560 and 1 in each year.
        full.go(64);
        Due.is("so far", full.count(6), 64 * 1561);
        Due.is("more as far as it may be", full.ahead(1, 1, 0), 99999 - 64 * 1561);
        Due.is("more as far as it may be", full.ahead(200, 1, 0), 99999 - 64 * 1561);
    }

    private static void when() {
        Doc.terms("WHEN of a cell and a PARISH: in how many YEARS as it goes, 199 at most, "
            + "the cell is of its land (0: it is).");
        String text = "land 40;parish p 20 0;child c 8 0;law walk (year=1)*3+(year=3)*9+(year=99)*20;"
            + "beat p c 1 1;beat p c 1 2;beat p c 1 3;beat p c 1 99;";
        BeatenBounds x = Texts.of(text);
        Due.is("its church", x.when(0, 20, 0), 0);
        Due.is("the first time", x.when(0, 20, 3), 2);
        Due.is("later", x.when(0, 20, 4), 4);
        Due.is("behind the last year of all", x.when(0, 20, 20), 100);
        Due.is("never", x.when(0, 20, 21), -2);
        Due.is("never another row", x.when(0, 21, 0), -2);
        x.go(2);
        Due.is("it is", x.when(0, 20, 3), 0);
        x.go(1);
        Due.is("no more, but again", x.when(0, 20, 3), 1);
        x.go(96);
        Due.is("next year", x.when(0, 20, 20), 1);
        x.go(1);
        Due.is("now", x.when(0, 20, 20), 0);
    }

    /** Parish 0's most AREA by beatings by call, each choice tried on an object of its own: four children, then AREA. */
    private static int[] most(String text, int children) {
        int[] best = null;
        int base = children + 1;
        for (int code = 0; code < base * base * base * base; code++) {
            int[] picks = {code / base / base / base, code / base / base % base, code / base % base, code % base};
            if (!twice(picks, children)) {
                BeatenBounds x = tiredFirst(text);
                for (int way = 0; way < 4; way++) {
                    if (picks[way] < children) {
                        x.beat(0, picks[way], way);
                    }
                }
                int area = x.parish(0, 6);
                if (best == null || area > best[4]) {
                    best = new int[] {name(picks[0], children), name(picks[1], children), name(picks[2], children),
                        name(picks[3], children), area};
                }
            }
        }
        return best;
    }

    /** Stones up and left; the first child is tired by two, if there is one. */
    private static BeatenBounds tiredFirst(String text) {
        BeatenBounds x = Texts.of(text);
        x.beat(0, 0, 0);
        x.beat(0, 0, 0);
        x.carry(0, 0, 3);
        x.carry(0, 3, 1);
        return x;
    }

    private static int name(int pick, int children) {
        return pick < children ? pick : -2;
    }

    private static boolean twice(int[] picks, int children) {
        for (int k = 0; k < 4; k++) {
            for (int j = 0; j < k; j++) {
                if (picks[k] == picks[j] && picks[k] < children) {
                    return true;
                }
            }
        }
        return false;
    }

    private static void laid(String text, int children) {
        int[] due = most(text, children);
        BeatenBounds x = tiredFirst(text);
        String ahead = Whole.of(x);
        for (int what = 0; what < 5; what++) {
            Due.is(text + " what " + what, x.laid(0, what), due[what]);
        }
        Due.same("nobody went", Whole.of(x), ahead);
    }

    private static void laid() {
        Doc.terms("LAID of a PARISH: CHILDREN for the WAYS 0 .. 3, each WAY none (then FAR stays) or one, no CHILD twice, "
            + "each of them led that WAY now (as by call), so that AREA is most,");
        String land = "land 20;parish p 10 10;";
        laid(land, 0);
        laid(land + "child a 5 0;", 1);
        laid(land + "child a 2 0;child b 7 0;", 2);
        laid(land + "child a 1 0;child b 2 0;child c 9 0;", 3);
        laid(land + "child a 1 0;child b 2 0;child c 9 0;child d 4 0;rain 50;", 4);
        laid("land 9;parish p 7 1;child a 1 0;child b 2 0;child c 9 0;child d 4 0;", 4);
        laid(land + "child a 1 0;child b 2 0;child c 9 0;cake p 2 9;cake p 3 1;", 3);
        laid(land + "child a 1 8;child b 2 1;law walk mood-far;", 2);
        Doc.terms("of several the first by WAYS (none is last).");
        laid(land + "child a 5 0;child b 5 0;child c 5 0;", 3);
        laid(land + "child a 3 0;child b 3 0;", 2);
        laid(land + "child a 3 0;law walk far;", 1);
        laid(land + "child a 3 0;child b 4 0;law walk far;", 2);
        laid("land 5;parish p 3 1;child a 9 0;child b 9 0;child c 9 0;child d 9 0;", 4);
        BeatenBounds idle = Texts.of(land + "child a 3 0;child b 3 0;law walk 0;");
        int[] due = {0, 1, -2, -2, 1};
        for (int what = 0; what < 5; what++) {
            Due.is("nothing is won by " + what, idle.laid(0, what), due[what]);
        }
        BeatenBounds six = Texts.of(land + "child a 1 0;child b 1 0;child c 1 0;child d 1 0;child e 1 0;child f 2 0;");
        int[] ofSix = {0, 1, 2, 5, 12};
        for (int what = 0; what < 5; what++) {
            Due.is("six children, " + what, six.laid(0, what), ofSix[what]);
        }
    }

    private static void cakes() {
        Doc.terms("CAKE for a cell: the least SIZE 0 .. 9 of the CAKE of that WAY, with which a CHILD, led that WAY now "
            + "by the PARISH, would make the cell one of its land.");
        for (String law : new String[] {"", "law walk (sweet=2)*3+(sweet=5)*4-1;", "rain 50;"}) {
            String text = "land 12;parish p 4 6;child c 2 0;cake p 2 7;cake p 1 1;" + law;
            for (int way = 0; way < 4; way++) {
                BeatenBounds[] sizes = new BeatenBounds[10];
                for (int size = 0; size <= 9; size++) {
                    sizes[size] = tiredOnce(text);
                    sizes[size].bake(0, way, size);
                    sizes[size].beat(0, 0, way);
                }
                BeatenBounds x = tiredOnce(text);
                for (int cell = 0; cell < 144; cell++) {
                    int least = -2;
                    for (int size = 9; size >= 0; size--) {
                        least = sizes[size].owners(cell / 12, cell % 12) == 1 ? size : least;
                    }
                    Due.is("way " + way + " cell " + cell + law, x.cakeFor(0, 0, way, cell / 12, cell % 12), least);
                }
            }
        }
    }

    /** Stones right and down; the child is tired. */
    private static BeatenBounds tiredOnce(String text) {
        BeatenBounds x = Texts.of(text);
        x.beat(0, 0, 1);
        x.carry(0, 1, 2);
        x.carry(0, 2, 1);
        return x;
    }

    private static void tried() {
        Doc.terms("TRIED for n YEARS as it goes: AREAS of all in sum then: 0 no YEAR is WET, 1 all are,");
        for (int rain : EdgesOfYears.RAINS) {
            BeatenBounds x = Texts.of(FIVE + "rain " + rain + ";");
            // Dry: a right 11, down 8, b up 4; wet: 5, 4, 2. q has its church.
            Due.is("none is wet, rain " + rain, x.tried(0, 0, 2), 12 * 13 + 1);
            Due.is("all are wet, rain " + rain, x.tried(1, 0, 2), 6 * 7 + 1);
            Due.is("as it goes, rain " + rain, x.tried(2, 1, 2), rain >= 50 ? 6 * 5 + 1 : 12 * 9 + 1);
            Due.is("in a year", x.tried(0, 0, 1), 12 * 9 + 1);
            Due.is("in none", x.tried(1, 0, 0), 2);
        }
        Doc.terms("2 CHILD i isn't led,");
        BeatenBounds led = Texts.of(FIVE);
        Due.is("a isn't", led.tried(2, 0, 2), 5 + 1);
        Due.is("b isn't", led.tried(2, 1, 2), 12 * 9 + 1);
        Due.is("a is once more", led.ahead(2, 0, 0), 12 * 13);
        // Where both lead the same way, the other one's stone stays.
        Due.is("the other one is", Texts.of("land 40;parish p 20 20;child a 3 0;child b 5 0;beat p b 1 0;beat p a 1 0;")
            .tried(2, 0, 1), 6);
        Doc.terms("3 no CAKES,");
        Due.is("none told", led.tried(3, 0, 2), 10 * 13 + 1);
        led.bake(0, 0, 9);
        Due.is("none baked", led.tried(3, 0, 2), 10 * 13 + 1);
        Due.is("they are there", led.cake(0, 0), 9);
        Due.is("they are there", led.cake(0, 1), 2);
        Doc.terms("4 nobody is TIRED (now, nor later).");
        BeatenBounds tired = Texts.of(FIVE);
        // Not later: a right 11, down 9, b up 4.
        Due.is("nor later", tired.tried(4, 0, 2), 12 * 14 + 1);
        for (int k = 0; k < 5; k++) {
            tired.beat(0, 0, 3);
            tired.beat(0, 1, 3);
        }
        tired.carry(0, 3, 0);
        Due.is("nor now", tired.tried(4, 0, 2), 12 * 14 + 1);
        Due.is("they are tired", tired.child(0, 2), 5);
        Due.is("in no year nobody is led", tired.tried(4, 0, 0), 2);
        // Tiredness that a law looks at: of walking, of growing.
        BeatenBounds law = Texts.of("land 40;parish p 20 20;child a 9 0;beat p a 1 0;beat p a 2 0;beat p a 3 1;"
            + "law walk legs-tired*3;law grow 0-tired;");
        law.beat(0, 0, 0);
        law.carry(0, 0, 0);
        Due.is("as it goes: 6, 3, then legs 7 and tired by 2", law.ahead(2, 0, 0), 4 * 8);
        Due.is("nobody is tired: 9 each", law.tried(4, 0, 2), 10 * 19);
    }

    private static void aheadByCall() {
        Doc.promise(18, "AHEAD (n 0 .. 200), what 0 AREA of PARISH i, 1 QUARREL, 2 LEGS of CHILD i, 3 OVERLAPS "
            + "(of 1, 3 i isn't looked at).");
        BeatenBounds x = Texts.of("land 9;parish p 4 4;parish q 4 6;child c 3 0;child d 5 0;law grow mood+(year>=199);"
            + "beat p c 1 0;beat q d 3 99;");
        String ahead = Whole.of(x);
        Due.is("area now", x.ahead(0, 0, 0), 1);
        Due.is("area then", x.ahead(1, 0, 0), 4);
        Due.is("area of q ahead of its beating", x.ahead(99, 0, 1), 1);
        Due.is("area of q", x.ahead(100, 0, 1), 6);
        Due.is("area in 200", x.ahead(200, 0, 0), 4);
        Due.is("legs in 199", x.ahead(199, 2, 1), 5);
        Due.is("legs in 200", x.ahead(200, 2, 1), 6);
        for (int i : new int[] {Integer.MIN_VALUE, -1, 0, 1, 2, 6, Integer.MAX_VALUE}) {
            Due.is("quarrel, i " + i, x.ahead(2, 1, i), 2);
            Due.is("overlaps, i " + i, x.ahead(2, 3, i), 1);
        }
        // p has the columns 4 .. 7, q from YEAR 99 on 1 .. 6.
        Due.is("overlaps in 200", x.ahead(200, 3, 0), 3);
        Due.is("quarrel in 200", x.ahead(200, 1, 0), 99 + 101 * 3);
        Due.same("nothing went by", Whole.of(x), ahead);
        Doc.promise(18, "NONE: no such ones.");
        for (int none : Whole.noneOf(201)) {
            for (int what = 0; what < 4; what++) {
                Due.is("n " + none, x.ahead(none, what, 0), -1);
            }
        }
        for (int none : Whole.noneOf(4)) {
            Due.is("what " + none, x.ahead(1, none, 0), -1);
        }
        for (int none : Whole.noneOf(2)) {
            Due.is("parish " + none, x.ahead(1, 0, none), -1);
            Due.is("child " + none, x.ahead(1, 2, none), -1);
        }
        BeatenBounds fresh = new BeatenBounds();
        Due.is("quarrel of a new object", fresh.ahead(200, 1, 0), 0);
        Due.is("overlaps of a new object", fresh.ahead(200, 3, 0), 0);
        Due.is("no parish", fresh.ahead(1, 0, 0), -1);
        Due.is("no child", fresh.ahead(1, 2, 0), -1);
        // Parishes and children are not as many.
        BeatenBounds more = Texts.of("parish p 4 4;parish q 4 6;child c 3 0;");
        Due.is("parish 1", more.ahead(1, 0, 1), 1);
        Due.is("child 1", more.ahead(1, 2, 1), -1);
    }

    private static void whenByCall() {
        Doc.promise(19, "WHEN; -2: not by then;");
        BeatenBounds x = Texts.of("land 9;parish p 4 4;parish q 0 0;child c 3 0;beat p c 1 0;beat q c 2 1;");
        String ahead = Whole.of(x);
        Due.is("it is", x.when(0, 4, 4), 0);
        Due.is("the edge of it", x.when(0, 4, 7), 1);
        Due.is("behind it", x.when(0, 4, 8), -2);
        Due.is("of the other parish", x.when(1, 4, 7), -2);
        Due.is("q's", x.when(1, 3, 0), 2);
        Due.is("not q's", x.when(1, 4, 0), -2);
        Due.same("nothing went by", Whole.of(x), ahead);
        Doc.promise(19, "NONE: no such ones.");
        for (int none : Whole.noneOf(2)) {
            Due.is("parish " + none, x.when(none, 4, 4), -1);
        }
        for (int none : Whole.noneOf(9)) {
            Due.is("row " + none, x.when(0, none, 4), -1);
            Due.is("column " + none, x.when(0, 4, none), -1);
        }
    }

    private static void laidByCall() {
        Doc.promise(20, "LAID, what 0 .. 3: the CHILD of that WAY (-2: none), 4: AREA.");
        BeatenBounds x = Texts.of("land 9;parish p 4 4;parish q 0 0;child c 3 0;child d 2 0;");
        int[] due = {0, 1, -2, -2, 12};
        int[] ofQ = {-2, 0, 1, -2, 12};
        for (int what = 0; what < 5; what++) {
            Due.is("p " + what, x.laid(0, what), due[what]);
        }
        for (int what = 0; what < 5; what++) {
            // q lies in a corner: nobody can go up or left.
            Due.is("q " + what, x.laid(1, what), ofQ[what]);
        }
        BeatenBounds nobody = Texts.of("land 9;parish p 4 4;");
        nobody.carry(0, 1, 2);
        for (int what = 0; what < 4; what++) {
            Due.is("nobody " + what, nobody.laid(0, what), -2);
        }
        Due.is("area as it is", nobody.laid(0, 4), 3);
        Doc.promise(20, "NONE: no such ones.");
        for (int none : Whole.noneOf(2)) {
            Due.is("parish " + none, x.laid(none, 4), -1);
        }
        for (int none : Whole.noneOf(5)) {
            Due.is("what " + none, x.laid(0, none), -1);
        }
        Due.is("of a new object", new BeatenBounds().laid(0, 4), -1);
    }

    private static void cakeFor() {
        Doc.promise(21, "CAKE for a cell; -2: by none;");
        BeatenBounds x = Texts.of("land 40;parish p 20 20;parish q 0 0;child c 3 0;child d 5 0;cake p 1 4;");
        String ahead = Whole.of(x);
        Due.is("none needed", x.cakeFor(0, 0, 1, 20, 23), 0);
        Due.is("one", x.cakeFor(0, 0, 1, 20, 24), 1);
        Due.is("nine", x.cakeFor(0, 0, 1, 20, 32), 9);
        Due.is("by none", x.cakeFor(0, 0, 1, 20, 33), -2);
        Due.is("d's nine", x.cakeFor(0, 1, 1, 20, 34), 9);
        Due.is("of another row", x.cakeFor(0, 0, 1, 19, 23), -2);
        Due.is("its church", x.cakeFor(0, 0, 1, 20, 20), 0);
        Due.is("q's", x.cakeFor(1, 1, 2, 9, 0), 4);
        Due.is("not over the edge", x.cakeFor(1, 1, 0, 0, 1), -2);
        Due.same("nothing is baked", Whole.of(x), ahead);
        Doc.promise(21, "NONE: no such ones.");
        for (int none : Whole.noneOf(2)) {
            Due.is("parish " + none, x.cakeFor(none, 0, 1, 20, 23), -1);
            Due.is("child " + none, x.cakeFor(0, none, 1, 20, 23), -1);
        }
        for (int none : Whole.noneOf(4)) {
            Due.is("way " + none, x.cakeFor(0, 0, none, 20, 23), -1);
        }
        for (int none : Whole.noneOf(40)) {
            Due.is("row " + none, x.cakeFor(0, 0, 1, none, 23), -1);
            Due.is("column " + none, x.cakeFor(0, 0, 1, 20, none), -1);
        }
    }

    /** How often the walker's last stone is a dry year's, if in each of ten times n numbers are drawn. */
    private static int dryAtLast(int rain, int seed, int n, int beatings) {
        int[] drawn = EdgesOfYears.drawn(seed, 10 * n);
        int dry = 0;
        for (int k = 0; k < 10; k++) {
            dry += drawn[k * n + Math.min(n, beatings) - 1] >= rain ? 1 : 0;
        }
        return dry;
    }

    private static void chance() {
        Doc.promise(33, "In how many of ten times drawn (numbers from a seed 0 .. 2147483647 on, one behind another; "
            + "n 1 .. 99 YEARS from now) AREA of a PARISH is so much 0 .. 9999 at least then;");
        int[] seeds = {0, 1, 77, 99999, 2147483646, 2147483647};
        for (int seed : seeds) {
            BeatenBounds x = EdgesOfYears.walker(50, 5);
            for (int n : new int[] {1, 2, 3, 11, 12, 13, 98, 99}) {
                Due.is("seed " + seed + " n " + n, x.chance(seed, n, 0, 21), dryAtLast(50, seed, n, 12));
                Due.is("none as much", x.chance(seed, n, 0, 22), 0);
                Due.is("all as much", x.chance(seed, n, 0, 11), 10);
            }
            x.go(4);
            for (int n : new int[] {1, 2, 8, 9, 99}) {
                Due.is("from year 4, n " + n, x.chance(seed, n, 0, 21), dryAtLast(50, seed, n, 8));
            }
        }
        BeatenBounds x = EdgesOfYears.walker(30, 77);
        String ahead = Whole.of(x);
        Due.is("of rain 30", x.chance(5, 2, 0, 21), dryAtLast(30, 5, 2, 12));
        Due.is("0 cells", x.chance(5, 2, 0, 0), 10);
        Due.is("9999 cells", x.chance(5, 2, 0, 9999), 0);
        Due.same("nothing went by", Whole.of(x), ahead);
        x.go(1);
        Due.is("its own numbers stay", x.parish(0, 3), EdgesOfYears.drawn(77, 1)[0] < 30 ? 10 : 20);
        Due.is("without rain", EdgesOfYears.walker(0, 0).chance(5, 2, 0, 21), 10);
        Due.is("with rain 100", EdgesOfYears.walker(100, 0).chance(5, 2, 0, 21), 0);
    }

    private static void chanceRefused() {
        Doc.promise(33, "NONE: no such ones.");
        BeatenBounds x = EdgesOfYears.walker(50, 5);
        for (int none : new int[] {-1, -2, Integer.MIN_VALUE}) {
            Due.is("seed " + none, x.chance(none, 1, 0, 0), -1);
        }
        for (int none : Whole.outside(1, 99)) {
            Due.is("n " + none, x.chance(1, none, 0, 0), -1);
        }
        for (int none : Whole.noneOf(1)) {
            Due.is("parish " + none, x.chance(1, 1, none, 0), -1);
        }
        for (int none : Whole.outside(0, 9999)) {
            Due.is("area " + none, x.chance(1, 1, 0, none), -1);
        }
    }

    private static void triedByCall() {
        Doc.promise(34, "TRIED (n 0 .. 200);");
        BeatenBounds x = Texts.of(FIVE + "rain 49;beat q b 1 99;");
        String ahead = Whole.of(x);
        int[] inNone = {2, 2, 2, 2, 2};
        int[] inTwo = {12 * 13 + 1, 6 * 7 + 1, 5 + 1, 10 * 13 + 1, 12 * 14 + 1};
        int[] inAll = {12 * 13 + 5, 6 * 7 + 3, 5 + 5, 10 * 13 + 5, 12 * 14 + 5};
        for (int what = 0; what < 5; what++) {
            Due.is("in none, " + what, x.tried(what, 0, 0), inNone[what]);
            Due.is("in two, " + what, x.tried(what, 0, 2), inTwo[what]);
            Due.is("in 99, " + what, x.tried(what, 0, 99), inTwo[what]);
            Due.is("in 100, " + what, x.tried(what, 0, 100), inAll[what]);
            Due.is("in 200, " + what, x.tried(what, 0, 200), inAll[what]);
        }
        Due.same("nothing went by", Whole.of(x), ahead);
        Due.is("of a new object", new BeatenBounds().tried(1, 0, 200), 0);
        Doc.promise(34, "NONE: no such ones (i 0 of all but 2).");
        for (int what = 0; what < 5; what++) {
            for (int none : Whole.noneOf(201)) {
                Due.is("n " + none + " of " + what, x.tried(what, 0, none), -1);
            }
            for (int none : Whole.noneOf(what == 2 ? 2 : 1)) {
                Due.is("i " + none + " of " + what, x.tried(what, none, 1), -1);
            }
        }
        for (int none : Whole.noneOf(5)) {
            Due.is("what " + none, x.tried(none, 0, 1), -1);
        }
        Due.is("child 1", x.tried(2, 1, 2), 12 * 9 + 1);
        Due.is("no child of a new object", new BeatenBounds().tried(2, 0, 1), -1);
    }
}
