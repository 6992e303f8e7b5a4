/** The edges of years, of deeds by call, and of promises 14 to 17. */
final class EdgesOfYears {
    static final int[] RAINS = {0, 1, 49, 50, 51, 99, 100};

    private EdgesOfYears() {
    }

    static void run() {
        wetYears();
        beatingsOfYears();
        walks();
        strength();
        edges();
        tiredness();
        quarrels();
        resting();
        growing();
        nextYear();
        numbers();
        asItGoes();
        beat();
        bake();
        carry();
        go();
    }

    /** Led right in each of the years 0 .. 11: twenty cells, in a wet year ten. */
    static BeatenBounds walker(int rain, int seed) {
        StringBuilder text = new StringBuilder("land 40;parish p 20 0;child c 20 0;rain " + rain + ";seed " + seed + ";");
        for (int year = 0; year < 12; year++) {
            text.append("beat p c 1 ").append(year).append(';');
        }
        return Texts.of(text.toString());
    }

    /** The first n numbers of a seed, modulo 100. */
    static int[] drawn(int seed, int n) {
        int[] drawn = new int[n];
        long last = seed;
        for (int k = 0; k < n; k++) {
            last = (last * 1103515245L + 12345L) % 2147483648L;
            drawn[k] = (int) (last / 65536 % 100);
        }
        return drawn;
    }

    private static void goesBy(int rain, int seed) {
        BeatenBounds x = walker(rain, seed);
        int[] drawn = drawn(seed, 12);
        for (int year = 0; year < 12; year++) {
            x.go(1);
            Due.is("rain " + rain + " seed " + seed + " year " + year, x.parish(0, 3), drawn[year] < rain ? 10 : 20);
        }
    }

    private static void wetYears() {
        Doc.terms("A YEAR: (1) WET: a number modulo 100 (no number, if rain is 0 or 100) below rain.");
        for (int rain : RAINS) {
            goesBy(rain, 77);
            goesBy(rain, 4711);
        }
        // The first number of 77 is 97, the first of 0 is 0.
        Due.is("97", drawn(77, 1)[0], 97);
        goesBy(97, 77);
        goesBy(98, 77);
        Due.is("0", drawn(0, 1)[0], 0);
        goesBy(0, 0);
        goesBy(1, 0);
    }

    private static void beatingsOfYears() {
        Doc.terms("(2) BEATINGS of this YEAR, by their numbers:");
        BeatenBounds x = Texts.of("land 40;parish p 20 20;child a 3 0;child b 5 0;beat p a 1 1;beat p b 1 0;beat p b 1 2;"
            + "beat p a 1 2;beat p a 0 2;");
        Due.is("none yet", x.parish(0, 3), 0);
        x.go(1);
        Due.is("b's of year 0", x.parish(0, 3), 5);
        x.go(1);
        Due.is("a's of year 1", x.parish(0, 3), 3);
        x.go(1);
        Due.is("b's, then a's", x.parish(0, 3), 3);
        Due.is("then a's once more, tired", x.parish(0, 2), 2);
        BeatenBounds turned = Texts.of("land 40;parish p 20 20;child a 3 0;child b 5 0;beat p a 1 0;beat p b 1 0;");
        turned.go(1);
        Due.is("a's, then b's", turned.parish(0, 3), 5);
        turned.go(100);
        Due.is("never again", turned.parish(0, 3), 5);
    }

    /** How far one comes by a law, by call and in a year, from a corner of the largest land. */
    private static void walks(String law, int due) {
        BeatenBounds x = Texts.of("land 40;parish p 0 0;child c 4 0;law walk " + law + ";beat p c 1 0;");
        Due.is(law + " by call", x.beat(0, 0, 2), due);
        x.go(1);
        Due.is(law, x.parish(0, 3), due);
    }

    private static void walks() {
        Doc.terms("FAR is E of walk (0 .. 99;");
        walks("0", 0);
        walks("1", 1);
        walks("38", 38);
        walks("39", 39);
        walks("0-1", 0);
        walks("0-9999*9999", 0);
        // Beyond 99 as beyond 39 it's the edge that is reached.
        walks("40", 39);
        walks("99", 39);
        walks("100", 39);
        walks("256*256*256*256", 39);
        walks("0-256*256*256*256", 0);
        walks("1000*1000*1000*1000", 39);
    }

    private static void strength() {
        Doc.terms("without, with an ERROR: LEGS and the CAKE's SIZE less how TIRED, 0 at least, in a WET YEAR by 2, cut),");
        for (String law : new String[] {"", "law walk 1/0;", "law walk 1000*1000*1000*1000+1;"}) {
            String text = "land 40;parish p 20 0;child c 4 0;cake p 1 3;" + law;
            BeatenBounds x = Texts.of(text + "beat p c 1 0;beat p c 1 1;beat p c 2 1;");
            Due.is("legs and cake" + law, x.ahead(1, 0, 0), 8);
            for (int k = 0; k < 3; k++) {
                x.beat(0, 0, 1);
            }
            Due.is("less tired by 3" + law, x.beat(0, 0, 1), 4);
            Due.is("no cake, tired by 4" + law, x.beat(0, 0, 2), 0);
            Due.is("0 at least" + law, x.beat(0, 0, 2), 0);
            BeatenBounds wet = Texts.of(text + "rain 100;beat p c 1 0;");
            wet.go(1);
            Due.is("seven by 2" + law, wet.parish(0, 3), 3);
            wet.bake(0, 1, 4);
            Due.is("eight by 2" + law, wet.beat(0, 0, 1), 4);
            wet.bake(0, 1, 0);
            wet.beat(0, 0, 2);
            wet.beat(0, 0, 2);
            Due.is("one by 2" + law, wet.beat(0, 0, 1), 0);
            Due.is("none by 2" + law, wet.beat(0, 0, 1), 0);
            Due.is("less than none by 2" + law, wet.beat(0, 0, 1), 0);
        }
        // A law that has an ERROR now and then: FAR 0 the first time only.
        BeatenBounds once = Texts.of("land 40;parish p 20 0;child c 4 0;law walk 9/far;");
        Due.is("an error: legs", once.beat(0, 0, 1), 4);
        Due.is("no error", once.beat(0, 0, 1), 2);
        // By a law a wet year halves nothing.
        Due.is("by law", Texts.of("land 40;parish p 20 0;child c 4 0;rain 100;law walk legs;").beat(0, 0, 1), 4);
    }

    private static void edges() {
        Doc.terms("but not beyond the edge;");
        int[][] churches = {{0, 0}, {0, 8}, {8, 0}, {8, 8}, {2, 5}};
        for (int[] church : churches) {
            int[] edge = {church[0], 8 - church[1], 8 - church[0], church[1]};
            for (int way = 0; way < 4; way++) {
                String text = "land 9;parish p " + church[0] + " " + church[1] + ";child c 30 0;beat p c " + way + " 0;";
                BeatenBounds x = Texts.of(text);
                x.go(1);
                Due.is("way " + way, x.parish(0, 2 + way), edge[way]);
                Due.is("by law " + way, Texts.of(text + "law walk 99;").beat(0, 0, way), edge[way]);
                Due.is("one less than it", Texts.of(text + "law walk " + Math.max(edge[way] - 1, 0) + ";").beat(0, 0, way),
                    Math.max(edge[way] - 1, 0));
            }
        }
    }

    private static void tiredness() {
        Doc.terms("the CHILD is 1 more TIRED (99 at most).");
        BeatenBounds x = Texts.of("parish p 0 0;child c 30 0;child d 30 0;beat p c 1 0;beat p c 1 1;beat p c 1 1;");
        x.beat(0, 0, 1);
        Due.is("one more", x.child(0, 2), 1);
        Due.is("nobody else", x.child(1, 2), 0);
        for (int k = 1; k < 99; k++) {
            x.beat(0, 0, 1);
        }
        Due.is("99", x.child(0, 2), 99);
        x.beat(0, 0, 1);
        Due.is("99 at most", x.child(0, 2), 99);
        x.go(1);
        Due.is("99 at most in a year, then one less", x.child(0, 2), 98);
        x.go(1);
        Due.is("twice one more, then one less: 99 at most ahead of it", x.child(0, 2), 98);
    }

    static BeatenBounds crowd(String more) {
        BeatenBounds x = Texts.of("land 40;parish a 0 0;parish b 39 39;parish c 0 39;" + more);
        x.carry(0, 1, 38);
        x.carry(0, 2, 39);
        return x;
    }

    private static void quarrels(String law, int far, int due) {
        BeatenBounds x = crowd(law);
        x.carry(1, 3, far);
        x.go(1);
        Due.is(law + " of " + far, x.count(6), due);
    }

    private static void quarrels() {
        Doc.terms("(3) by numbers each pair of PARISHES that OVERLAP: "
            + "QUARREL is more by E of quarl (0 .. 999; OVERLAP without, with an ERROR), 99999 at most.");
        // a has all columns but the last, b lies right of it, c above b: they touch, no more.
        quarrels("", 0, 0);
        quarrels("law quarl 5;", 0, 0);
        quarrels("", 1, 1);
        quarrels("", 7, 7);
        quarrels("law quarl 5;", 1, 5);
        quarrels("law quarl 0;", 7, 0);
        quarrels("law quarl 0-1;", 7, 0);
        quarrels("law quarl 999;", 7, 999);
        quarrels("law quarl 1000;", 7, 999);
        quarrels("law quarl 1000*1000*1000*1000;", 7, 999);
        quarrels("law quarl 0-256*256*256*256;", 7, 0);
        quarrels("law quarl 1/0;", 7, 7);
        quarrels("law quarl 1000*1000*1000*1000+1;", 7, 7);
        quarrels("law quarl far*far;", 7, 49);
        BeatenBounds three = crowd("law quarl 5;");
        three.carry(0, 1, 39);
        three.carry(1, 0, 39);
        three.go(1);
        Due.is("three pairs", three.count(6), 15);
        // a: the whole land, b: 40 cells of the last column, c: one of both: 40, 1 and 1.
        BeatenBounds without = crowd("");
        without.carry(0, 1, 39);
        without.carry(1, 0, 39);
        without.go(1);
        Due.is("three pairs by their overlaps", without.count(6), 42);
        without.carry(1, 3, 39);
        // OVERLAPS 1600, 1, 1: 62 years make 99324 more, behind the 42.
        without.go(62);
        Due.is("overlap without is not cut to 999", without.count(6), 99366);
        without.go(1);
        Due.is("99999 at most", without.count(6), 99999);
        without.go(1);
        Due.is("99999 still", without.count(6), 99999);
        BeatenBounds exact = crowd("law quarl 999-(year=100)*900;");
        exact.carry(1, 3, 1);
        exact.go(101);
        Due.is("99999, just reached", exact.count(6), 99999);
        BeatenBounds less = crowd("law quarl 999-(year=100)*901;");
        less.carry(1, 3, 1);
        less.go(101);
        Due.is("one less", less.count(6), 99998);
        BeatenBounds beaten = Texts.of("land 9;parish a 0 0;parish b 0 2;child c 4 0;beat a c 1 0;");
        beaten.go(1);
        Due.is("behind the beatings of the year", beaten.count(6), 1);
    }

    private static void resting() {
        Doc.terms("(4) by numbers each CHILD is 1 less TIRED (0 at least),");
        BeatenBounds x = Texts.of("parish p 0 0;child c 9 0;child d 9 0;child e 9 0;");
        x.beat(0, 0, 1);
        x.beat(0, 2, 1);
        x.beat(0, 2, 1);
        int[][] tired = {{0, 0, 1}, {0, 0, 0}, {0, 0, 0}};
        for (int[] due : tired) {
            x.go(1);
            for (int child = 0; child < 3; child++) {
                Due.is("child " + child, x.child(child, 2), due[child]);
            }
        }
    }

    private static void grown(String law, int legs, int due) {
        BeatenBounds x = Texts.of("child c " + legs + " 7;" + law);
        x.go(1);
        Due.is(law + " of " + legs, x.child(0, 0), due);
    }

    private static void growing() {
        Doc.terms("then LEGS are more by E of grow (-9 .. 9; 0 without, with an ERROR), 0 .. 30.");
        grown("", 5, 5);
        grown("law grow 0;", 5, 5);
        grown("law grow 1;", 5, 6);
        grown("law grow 9;", 5, 14);
        grown("law grow 10;", 5, 14);
        grown("law grow 1000*1000*1000*1000;", 5, 14);
        grown("law grow 0-1;", 15, 14);
        grown("law grow 0-9;", 15, 6);
        grown("law grow 0-10;", 15, 6);
        grown("law grow 0-256*256*256*256;", 15, 6);
        grown("law grow 1/0;", 5, 5);
        grown("law grow 1000*1000*1000*1000+1;", 5, 5);
        grown("law grow 9;", 21, 30);
        grown("law grow 9;", 22, 30);
        grown("law grow 9;", 30, 30);
        grown("law grow 0-9;", 10, 1);
        grown("law grow 0-9;", 9, 0);
        grown("law grow 0-9;", 8, 0);
        grown("law grow 0-9;", 1, 0);
        BeatenBounds tired = Texts.of("parish p 0 0;child c 9 0;child d 9 0;law grow tired;");
        tired.beat(0, 1, 1);
        tired.beat(0, 1, 1);
        tired.beat(0, 1, 1);
        tired.go(1);
        Due.is("then: less tired already", tired.child(1, 0), 11);
        Due.is("the other", tired.child(0, 0), 9);
        BeatenBounds one = Texts.of("child c 5 0;child d 6 0;law grow 3/(legs-5);");
        one.go(1);
        Due.is("an error of one", one.child(0, 0), 5);
        Due.is("none of the other", one.child(1, 0), 9);
        BeatenBounds six = Texts.of("child a 1 1;child b 2 2;child c 3 3;child d 4 4;child e 5 5;child f 6 6;"
            + "law grow mood;");
        six.go(2);
        for (int child = 0; child < 6; child++) {
            Due.is("each of six, " + child, six.child(child, 0), 3 * (child + 1));
        }
        BeatenBounds none = Texts.of("parish p 0 0;child c 1 0;law grow 0-1;");
        none.go(2);
        Due.is("0 legs walk 0 cells", none.beat(0, 0, 1), 0);
        BeatenBounds beaten = Texts.of("parish p 0 0;child c 5 0;law grow 1;beat p c 1 0;");
        beaten.go(1);
        Due.is("behind the beatings of the year", beaten.parish(0, 3), 5);
    }

    private static void nextYear() {
        Doc.terms("Then it is the next YEAR.");
        BeatenBounds x = Texts.of("child c 5 0;law grow year;");
        for (int year = 0; year < 5; year++) {
            Due.is("year", x.count(5), year);
            Due.is("next", x.go(1), year + 1);
        }
        Due.is("0 and 1 and 2 and 3 and 4", x.child(0, 0), 15);
    }

    private static void numbers() {
        Doc.terms("Numbers are the last one (at first the seed) times 1103515245 and 12345, "
            + "without what is above 31 bits, by 65536.");
        for (int seed : new int[] {0, 1, 2, 4711, 65535, 65536, 99999}) {
            goesBy(50, seed);
        }
        // The last number as it was drawn, not by 65536, makes the next one: 16838 and 5758 of seed 1.
        long first = (1103515245L + 12345L) % 2147483648L;
        Due.is("first", first / 65536, 16838);
        Due.is("second", (first * 1103515245L + 12345L) % 2147483648L / 65536, 5758);
        BeatenBounds x = walker(59, 1);
        x.go(1);
        Due.is("38 is below 59", x.parish(0, 3), 10);
        x.go(1);
        Due.is("58 is, too", x.parish(0, 3), 10);
        BeatenBounds y = walker(58, 1);
        y.go(2);
        Due.is("58 is not below 58", y.parish(0, 3), 20);
    }

    private static void asItGoes() {
        Doc.terms("AS IT GOES, and by call: without numbers: it is WET, if rain is 50 at least.");
        for (int rain : RAINS) {
            BeatenBounds x = walker(rain, 77);
            int due = rain >= 50 ? 10 : 20;
            for (int n = 1; n <= 3; n++) {
                Due.is("as it goes, rain " + rain, x.ahead(n, 0, 0), due + 1);
            }
            Due.is("as it goes, rain " + rain, x.when(0, 20, 11), rain >= 50 ? -2 : 1);
            Due.is("laid, rain " + rain, x.laid(0, 4), due + 1);
            Due.is("cake, rain " + rain, x.cakeFor(0, 0, 1, 20, 11), rain >= 50 ? 2 : 0);
            Due.is("by call, rain " + rain, x.beat(0, 0, 1), due);
            x.undo();
            x.go(1);
            Due.is("no number was drawn", x.parish(0, 3), drawn(77, 1)[0] < rain ? 10 : 20);
        }
    }

    private static void beat() {
        Doc.promise(14, "A CHILD is led a WAY by a PARISH now (as in (2)): FAR then;");
        for (int rain : new int[] {0, 100}) {
            for (int way = 0; way < 4; way++) {
                String text = "land 9;parish p 4 4;parish q 2 2;child c 3 0;child d 7 0;cake q " + way + " 2;"
                    + "rain " + rain + ";";
                BeatenBounds told = Texts.of(text + "beat q d " + way + " 0;beat q c " + way + " 0;");
                BeatenBounds called = Texts.of(text);
                called.beat(1, 1, way);
                int far = called.beat(1, 0, way);
                Due.is("tired now", called.child(0, 2) + called.child(1, 2), 2);
                told.go(1);
                called.go(1);
                Due.is("far then", far, told.parish(1, 2 + way));
                Due.same("as in a year", Whole.ofLand(called), Whole.ofLand(told));
            }
        }
        Doc.promise(14, "NONE: no such ones.");
        BeatenBounds x = Texts.of("land 9;parish p 4 4;parish q 2 2;child c 3 0;child d 7 0;");
        String ahead = Whole.of(x);
        for (int none : Whole.noneOf(2)) {
            Due.is("parish " + none, x.beat(none, 0, 0), -1);
            Due.is("child " + none, x.beat(0, none, 0), -1);
        }
        for (int none : Whole.noneOf(4)) {
            Due.is("way " + none, x.beat(0, 0, none), -1);
        }
        Due.same("all stays", Whole.of(x), ahead);
        Due.is("the last ones", x.beat(1, 1, 3), 2);
        Due.is("of a new object", new BeatenBounds().beat(0, 0, 0), -1);
    }

    private static void bake() {
        Doc.promise(15, "The CAKE of a PARISH and a WAY is of a SIZE 0 .. 9 now: true;");
        BeatenBounds x = Texts.of("land 9;parish p 4 4;parish q 2 2;child c 3 0;cake q 3 5;");
        for (int size : new int[] {9, 0, 1, 8}) {
            Due.is("bake " + size, x.bake(1, 3, size), true);
            Due.is("of a size", x.cake(1, 3), size);
        }
        Due.is("of no other way", x.cake(1, 2), 0);
        Due.is("of no other parish", x.cake(0, 3), 0);
        Due.is("undone", x.undo(), 3);
        Due.is("of the size ahead", x.cake(1, 3), 1);
        Doc.promise(15, "false: no such ones, it is so.");
        String ahead = Whole.of(x);
        Due.is("it is so", x.bake(1, 3, 1), false);
        Due.is("it is none so", x.bake(0, 0, 0), false);
        for (int none : Whole.noneOf(2)) {
            Due.is("parish " + none, x.bake(none, 0, 1), false);
        }
        for (int none : Whole.noneOf(4)) {
            Due.is("way " + none, x.bake(0, none, 1), false);
        }
        for (int none : Whole.noneOf(10)) {
            Due.is("size " + none, x.bake(0, 0, none), false);
        }
        Due.same("all stays", Whole.of(x), ahead);
    }

    private static void carry() {
        Doc.promise(16, "The stone of a PARISH and a WAY is carried: FAR is so much now (not beyond the edge): AREA;");
        BeatenBounds x = Texts.of("land 9;parish p 4 4;parish q 2 3;child c 3 0;");
        int[] edge = {2, 5, 6, 3};
        int[] areas = {3, 18, 54, 81};
        for (int way = 0; way < 4; way++) {
            Due.is("to the edge", x.carry(1, way, edge[way]), areas[way]);
            Due.is("far", x.parish(1, 2 + way), edge[way]);
        }
        Due.is("nearer", x.carry(1, 1, 4), 72);
        Due.is("to the church", x.carry(1, 0, 0), 56);
        Due.is("nobody is tired by it", x.child(0, 2), 0);
        Due.is("undone", x.undo(), 5);
        Due.is("as ahead", x.parish(1, 2), 2);
        Doc.promise(16, "NONE: no such ones, it is so.");
        String ahead = Whole.of(x);
        Due.is("it is so", x.carry(1, 1, 4), -1);
        Due.is("it is so at the church", x.carry(0, 1, 0), -1);
        for (int none : Whole.noneOf(2)) {
            Due.is("parish " + none, x.carry(none, 0, 1), -1);
        }
        for (int none : Whole.noneOf(4)) {
            Due.is("way " + none, x.carry(0, none, 1), -1);
        }
        for (int way = 0; way < 4; way++) {
            for (int none : Whole.noneOf(edge[way] + 1)) {
                Due.is("far " + none + " way " + way, x.carry(1, way, none), -1);
            }
        }
        Due.same("all stays", Whole.of(x), ahead);
        // Beyond the edge is refused, not cut to it.
        BeatenBounds fresh = Texts.of("land 9;parish p 4 4;");
        Due.is("one beyond the edge", fresh.carry(0, 0, 5), -1);
        Due.is("far stays", fresh.parish(0, 2), 0);
    }

    private static void go() {
        Doc.promise(17, "So many YEARS (0 .. 200) go by: which one it is;");
        BeatenBounds x = Texts.of("child c 1 0;law grow year<5;");
        Due.is("0", x.go(0), 0);
        Due.is("1", x.go(1), 1);
        Due.is("legs", x.child(0, 0), 2);
        Due.is("199", x.go(199), 200);
        Due.is("legs", x.child(0, 0), 6);
        Due.is("200", x.go(200), 400);
        Due.is("0", x.go(0), 400);
        BeatenBounds at = walker(50, 4711);
        BeatenBounds step = walker(50, 4711);
        at.go(7);
        for (int k = 0; k < 7; k++) {
            step.go(1);
        }
        Due.same("one by one", Whole.of(at), Whole.of(step));
        at.go(2);
        step.go(2);
        Due.same("numbers, too", Whole.of(at), Whole.of(step));
        Doc.promise(17, "NONE, and none does: no such number, behind 9800.");
        String ahead = Whole.of(x);
        for (int none : Whole.noneOf(201)) {
            Due.is("go " + none, x.go(none), -1);
        }
        Due.same("none does", Whole.of(x), ahead);
        for (int k = 0; k < 46; k++) {
            x.go(200);
        }
        Due.is("9600", x.count(5), 9600);
        x.keep();
        Due.is("to 9800 at once", x.go(200), 9800);
        x.back();
        Due.is("9799", x.go(199), 9799);
        for (int n : new int[] {2, 3, 200, 201, -1, Integer.MAX_VALUE, Integer.MIN_VALUE}) {
            Due.is("go " + n + " in 9799", x.go(n), -1);
        }
        Due.is("none does", x.count(5), 9799);
        Due.is("go 0 in 9799", x.go(0), 9799);
        Due.is("to 9800", x.go(1), 9800);
        Due.is("go 1 in 9800", x.go(1), -1);
        Due.is("go 200 in 9800", x.go(200), -1);
        Due.is("go 0 in 9800", x.go(0), 9800);
        Due.is("none does", x.count(5), 9800);
        Due.is("what comes is asked all the same", x.ahead(200, 2, 0), 6);
        x.back();
        Due.is("in an image it goes on", x.go(1), 9601);
    }
}
