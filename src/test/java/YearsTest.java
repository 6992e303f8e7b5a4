/** Promises 14 to 21 and 33 to 37: deeds by call, years, what comes, what is tried, undone, kept. */
public final class YearsTest {
    public static void main(String[] args) {
        beatings();
        bakingAndCarrying();
        yearsGo();
        wetYears();
        growing();
        quarrels();
        ahead();
        when();
        laid();
        cakeFor();
        chances();
        tries();
        undoing();
        images();
        Due.end();
    }

    private static void beatings() {
        BeatenBounds x = Texts.of("land 20;parish p 10 10;child c 5 0;child d 30 0;cake p 1 3;rain 49;");
        Due.is("legs and cake", x.beat(0, 0, 1), 8);
        Due.is("its stone", x.parish(0, 3), 8);
        Due.is("tired", x.child(0, 2), 1);
        Due.is("legs less tired", x.beat(0, 0, 0), 4);
        Due.is("nearer than it was", x.beat(0, 0, 1), 6);
        Due.is("up to the edge", x.beat(0, 1, 0), 10);
        Due.is("right up to the edge", x.beat(0, 1, 1), 9);
        Due.is("down to the edge", x.beat(0, 1, 2), 9);
        Due.is("left to the edge", x.beat(0, 1, 3), 10);
        for (int k = 0; k < 5; k++) {
            x.beat(0, 0, 2);
        }
        Due.is("not below 0", x.beat(0, 0, 2), 0);
        Due.is("no such parish", x.beat(1, 0, 0), -1);
        Due.is("no such child", x.beat(0, 2, 0), -1);
        Due.is("no such way", x.beat(0, 0, 4), -1);
        Due.is("no such way", x.beat(0, 0, -1), -1);
        Due.is("nothing of these to undo", x.count(12), 13);
        for (int k = 0; k < 120; k++) {
            x.beat(0, 1, 0);
        }
        Due.is("tired at most", x.child(1, 2), 99);
        BeatenBounds wet = Texts.of("land 20;parish p 10 10;child c 7 0;rain 50;");
        Due.is("wet by call, cut", wet.beat(0, 0, 1), 3);
        BeatenBounds law = Texts.of("land 20;parish p 10 10;child c 7 2;law walk mood-far;");
        Due.is("by law", law.beat(0, 0, 1), 2);
        Due.is("far as it is", law.beat(0, 0, 1), 0);
        law.carry(0, 1, 9);
        Due.is("law below 0", law.beat(0, 0, 1), 0);
        BeatenBounds far = Texts.of("land 40;parish p 0 0;child c 7 2;law walk 1000;");
        Due.is("law beyond", far.beat(0, 0, 1), 39);
        BeatenBounds error = Texts.of("land 40;parish p 0 0;child c 7 2;law walk 1/far;");
        Due.is("law with an error", error.beat(0, 0, 1), 7);
        Due.is("law without one", error.beat(0, 0, 1), 0);
    }

    private static void bakingAndCarrying() {
        BeatenBounds x = Texts.of("land 10;parish p 2 3;cake p 1 3;");
        Due.is("it is so", x.bake(0, 1, 3), false);
        Due.is("bake 0", x.bake(0, 1, 0), true);
        Due.is("none left", x.cake(0, 1), 0);
        Due.is("bake 9", x.bake(0, 2, 9), true);
        Due.is("bake 10", x.bake(0, 2, 10), false);
        Due.is("bake -1", x.bake(0, 2, -1), false);
        Due.is("bake way 4", x.bake(0, 4, 1), false);
        Due.is("bake way -1", x.bake(0, -1, 1), false);
        Due.is("bake parish 1", x.bake(1, 0, 1), false);
        Due.is("bake parish -1", x.bake(-1, 0, 1), false);
        Due.is("its size", x.cake(0, 2), 9);
        int[] edges = {2, 6, 7, 3};
        int[] areas = {3, 21, 70, 100};
        for (int way = 0; way < 4; way++) {
            Due.is("beyond the edge", x.carry(0, way, edges[way] + 1), -1);
            Due.is("it is so", x.carry(0, way, 0), -1);
            Due.is("to the edge", x.carry(0, way, edges[way]), areas[way]);
            Due.is("it is so now", x.carry(0, way, edges[way]), -1);
        }
        Due.is("back to the church", x.carry(0, 0, 0), 80);
        Due.is("carry -1", x.carry(0, 0, -1), -1);
        Due.is("carry way 4", x.carry(0, 4, 1), -1);
        Due.is("carry parish 1", x.carry(1, 0, 1), -1);
        Due.is("what was done", x.count(12), 7);
    }

    private static void yearsGo() {
        BeatenBounds x = Texts.of("land 20;parish p 10 10;child c 5 0;beat p c 1 2;beat p c 2 2;beat p c 3 99;");
        Due.is("go 0", x.go(0), 0);
        Due.is("go 2", x.go(2), 2);
        Due.is("not yet", x.parish(0, 6), 1);
        Due.is("go 1", x.go(1), 3);
        Due.is("first", x.parish(0, 3), 5);
        Due.is("then one more tired", x.parish(0, 4), 4);
        Due.is("rested once", x.child(0, 2), 1);
        Due.is("go -1", x.go(-1), -1);
        Due.is("go 201", x.go(201), -1);
        Due.is("go 200", x.go(200), 203);
        Due.is("led in 99", x.parish(0, 5), 5);
        Due.is("rested", x.child(0, 2), 0);
        for (int year = 400; year <= 9600; year += 200) {
            Due.is("go", x.go(year - x.count(5)), year);
        }
        Due.is("one more than 200", x.go(201), -1);
        Due.is("to 9768", x.go(168), 9768);
        x.bake(0, 1, 3);
        Due.is("would be 9801", x.go(33), -1);
        Due.is("would be far behind 9800", x.go(200), -1);
        Due.is("none does", x.count(5), 9768);
        Due.is("so it can be undone", x.count(12), 1);
        Due.is("to 9800", x.go(32), 9800);
        Due.is("in 9800", x.go(0), 9800);
        Due.is("behind 9800", x.go(1), -1);
        Due.is("still in 9800", x.count(5), 9800);
        Due.is("asked all the same", x.ahead(200, 0, 0), 5 * 11);
        BeatenBounds order = Texts.of("parish p 0 0;child c 3 0;beat p c 1 0;beat p c 1 0;");
        order.go(1);
        Due.is("by their numbers", order.parish(0, 3), 2);
    }

    private static BeatenBounds walker(int rain, int seed) {
        StringBuilder text = new StringBuilder("land 40;parish p 20 0;child c 20 0;rain " + rain + ";seed " + seed + ";");
        for (int year = 0; year < 12; year++) {
            text.append("beat p c 1 ").append(year).append(';');
        }
        return Texts.of(text.toString());
    }

    private static void goes(int rain, int seed, int... fars) {
        BeatenBounds x = walker(rain, seed);
        for (int k = 0; k < fars.length; k++) {
            x.go(1);
            Due.is("rain " + rain + " seed " + seed + " year " + k, x.parish(0, 3), fars[k]);
        }
    }

    private static void wetYears() {
        // Of seed 77 the numbers are 97 60 69 49 49 89 87 9 45 70 32 66 modulo 100.
        goes(50, 77, 20, 20, 20, 10, 10, 20, 20, 10, 10, 20, 10, 20);
        goes(49, 77, 20, 20, 20, 20, 20, 20, 20, 10, 10, 20, 10, 20);
        goes(10, 77, 20, 20, 20, 20, 20, 20, 20, 10, 20, 20, 20, 20);
        goes(9, 77, 20, 20, 20, 20, 20, 20, 20, 20, 20, 20, 20, 20);
        goes(0, 77, 20, 20, 20, 20, 20, 20);
        goes(100, 77, 10, 10, 10, 10, 10, 10);
        // Of seed 0: 0 68 88 17 98 27.
        goes(1, 0, 10, 20, 20, 20, 20, 20);
        BeatenBounds x = walker(50, 77);
        x.go(4);
        Due.is("four at once", x.parish(0, 3), 10);
        Due.is("as it goes it is wet", x.ahead(2, 0, 0), 11);
        x.go(2);
        Due.is("what is asked draws no number", x.parish(0, 3), 20);
    }

    private static void growing() {
        BeatenBounds x = Texts.of("child a 5 9;child b 29 1;law grow mood*100;");
        x.go(1);
        Due.is("by 9 at most", x.child(0, 0), 14);
        Due.is("30 at most", x.child(1, 0), 30);
        Due.is("legs in sum", x.count(9), 44);
        BeatenBounds less = Texts.of("child a 5 9;child b 29 1;law grow 0-mood*100;");
        less.go(1);
        Due.is("0 at least", less.child(0, 0), 0);
        Due.is("by 9 less at most", less.child(1, 0), 20);
        BeatenBounds error = Texts.of("child a 5 9;law grow 1/year;");
        error.go(1);
        Due.is("an error: none", error.child(0, 0), 5);
        error.go(1);
        Due.is("then one", error.child(0, 0), 6);
        BeatenBounds tired = Texts.of("parish p 0 0;child a 5 9;law grow tired;");
        tired.beat(0, 0, 1);
        tired.beat(0, 0, 1);
        tired.beat(0, 0, 1);
        tired.go(1);
        Due.is("rested ahead of growing", tired.child(0, 0), 7);
        tired.go(5);
        Due.is("till rested", tired.child(0, 0), 8);
        Due.is("without a law", Texts.of("child a 5 9;").ahead(9, 2, 0), 5);
    }

    private static BeatenBounds crowd(String more) {
        BeatenBounds x = Texts.of("land 40;parish a 0 0;parish b 39 39;parish c 20 20;" + more);
        x.carry(0, 1, 39);
        x.carry(0, 2, 39);
        return x;
    }

    private static void quarrels() {
        BeatenBounds x = crowd("");
        x.go(1);
        Due.is("overlaps of a and b, a and c", x.count(6), 2);
        x.carry(1, 0, 39);
        x.carry(1, 3, 39);
        Due.is("ahead", x.ahead(1, 1, 0), 1602);
        x.go(1);
        Due.is("all of it", x.count(6), 2 + 1602);
        x.go(100);
        Due.is("at most", x.count(6), 99999);
        Due.is("no more ahead", x.ahead(5, 1, 0), 0);
        BeatenBounds law = crowd("law quarl far*600-1;");
        law.go(1);
        Due.is("by law", law.count(6), 599 + 599);
        law.carry(2, 0, 1);
        law.go(1);
        Due.is("by law, 999 at most", law.count(6), 2 * 599 + 599 + 999);
        BeatenBounds below = crowd("law quarl 0-5;");
        below.go(3);
        Due.is("by law, 0 at least", below.count(6), 0);
        BeatenBounds error = crowd("law quarl 1/0;");
        error.go(3);
        Due.is("an error: overlaps", error.count(6), 6);
    }

    private static void ahead() {
        BeatenBounds x = Texts.of("land 20;parish p 10 10;parish q 10 12;child c 5 0;beat p c 1 2;law grow 1;rain 10;");
        x.go(1);
        Due.is("area now", x.ahead(0, 0, 0), 1);
        Due.is("area in 1", x.ahead(1, 0, 0), 1);
        // In YEAR 2 the legs are 7.
        Due.is("area in 2", x.ahead(2, 0, 0), 8);
        Due.is("the other's", x.ahead(2, 0, 1), 1);
        Due.is("quarrel more", x.ahead(2, 1, 99), 1);
        Due.is("quarrel more", x.ahead(4, 1, -1), 3);
        Due.is("legs", x.ahead(2, 2, 0), 8);
        Due.is("legs now", x.ahead(0, 2, 0), 6);
        Due.is("overlaps", x.ahead(2, 3, 99), 1);
        Due.is("overlaps now", x.ahead(0, 3, -1), 0);
        Due.is("200", x.ahead(200, 2, 0), 30);
        Due.is("201", x.ahead(201, 2, 0), -1);
        Due.is("-1", x.ahead(-1, 2, 0), -1);
        Due.is("parish 2", x.ahead(1, 0, 2), -1);
        Due.is("parish -1", x.ahead(1, 0, -1), -1);
        Due.is("child 1", x.ahead(1, 2, 1), -1);
        Due.is("what 4", x.ahead(1, 4, 0), -1);
        Due.is("what -1", x.ahead(1, -1, 0), -1);
        Due.is("nothing went by", x.count(5), 1);
        x.go(3);
        Due.is("quarrel so far", x.count(6), 2);
        Due.is("more, not in all", x.ahead(3, 1, 0), 3);
    }

    private static void when() {
        BeatenBounds x = Texts.of("land 9;parish p 4 4;child c 2 0;beat p c 1 0;beat p c 2 99;law walk 2;");
        Due.is("it is", x.when(0, 4, 4), 0);
        Due.is("behind a year", x.when(0, 4, 6), 1);
        Due.is("behind 100", x.when(0, 5, 5), 100);
        Due.is("never", x.when(0, 4, 7), -2);
        Due.is("parish 1", x.when(1, 4, 4), -1);
        Due.is("parish -1", x.when(-1, 4, 4), -1);
        Due.is("row 9", x.when(0, 9, 4), -1);
        Due.is("column -1", x.when(0, 4, -1), -1);
        BeatenBounds less = Texts.of("land 9;parish p 4 4;child c 1 0;beat p c 1 0;law walk 0;");
        less.carry(0, 1, 3);
        Due.is("as long as it is", less.when(0, 4, 7), 0);
        less.go(1);
        Due.is("no more", less.when(0, 4, 7), -2);
    }

    private static void laid() {
        BeatenBounds x = Texts.of("land 40;parish p 20 20;child a 3 0;child b 3 0;child c 1 0;");
        // Four ways and three children: one up or down with 3, one aside with 3, the third on either.
        int[] due = {0, 1, 2, -2, 20};
        for (int what = 0; what < 5; what++) {
            Due.is("laid " + what, x.laid(0, what), due[what]);
        }
        x.carry(0, 0, 9);
        // Whoever is led up would be nearer than the stone is.
        int[] stays = {-2, 0, 2, 1, 77};
        for (int what = 0; what < 5; what++) {
            Due.is("laid with a stone " + what, x.laid(0, what), stays[what]);
        }
        Due.is("nobody went", x.child(0, 2), 0);
        Due.is("laid 5", x.laid(0, 5), -1);
        Due.is("laid -1", x.laid(0, -1), -1);
        Due.is("laid parish 1", x.laid(1, 0), -1);
        Due.is("laid parish -1", x.laid(-1, 0), -1);
        BeatenBounds nobody = Texts.of("land 40;parish p 20 20;");
        nobody.carry(0, 2, 5);
        Due.is("nobody", nobody.laid(0, 2), -2);
        Due.is("area stays", nobody.laid(0, 4), 6);
        Texts.tell(x, "land 40;parish p 20 20;");
        Due.is("nobody any more", x.laid(0, 0), -2);
        Due.is("area of the church", x.laid(0, 4), 1);
        BeatenBounds idle = Texts.of("land 40;parish p 20 20;child a 3 0;child b 3 0;law walk 0;");
        // Led or not, nothing is won: the first by ways, and none is last.
        int[] first = {0, 1, -2, -2, 1};
        for (int what = 0; what < 5; what++) {
            Due.is("laid idle " + what, idle.laid(0, what), first[what]);
        }
        BeatenBounds wet = Texts.of("land 40;parish p 20 20;child a 7 0;cake p 3 2;rain 50;");
        Due.is("by its cake", wet.laid(0, 3), 0);
        Due.is("wet by call", wet.laid(0, 4), 5);
    }

    private static void cakeFor() {
        BeatenBounds x = Texts.of("land 40;parish p 20 20;child a 3 0;cake p 1 9;");
        Due.is("without", x.cakeFor(0, 0, 1, 20, 23), 0);
        Due.is("the church", x.cakeFor(0, 0, 1, 20, 20), 0);
        Due.is("the least", x.cakeFor(0, 0, 1, 20, 24), 1);
        Due.is("the most", x.cakeFor(0, 0, 1, 20, 32), 9);
        Due.is("by none", x.cakeFor(0, 0, 1, 20, 33), -2);
        Due.is("another row", x.cakeFor(0, 0, 1, 21, 21), -2);
        Due.is("another way", x.cakeFor(0, 0, 0, 20, 21), -2);
        x.carry(0, 2, 1);
        Due.is("that row", x.cakeFor(0, 0, 1, 21, 24), 1);
        Due.is("the stone would go", x.cakeFor(0, 0, 2, 24, 20), 1);
        x.beat(0, 0, 3);
        Due.is("tired", x.cakeFor(0, 0, 1, 20, 24), 2);
        Due.is("nothing was baked", x.cake(0, 1), 9);
        Due.is("parish", x.cakeFor(1, 0, 1, 20, 24), -1);
        Due.is("child", x.cakeFor(0, 1, 1, 20, 24), -1);
        Due.is("way", x.cakeFor(0, 0, 4, 20, 24), -1);
        Due.is("row", x.cakeFor(0, 0, 1, 40, 24), -1);
        Due.is("column", x.cakeFor(0, 0, 1, 20, -1), -1);
        BeatenBounds law = Texts.of("land 40;parish p 20 20;child a 3 0;law walk (sweet=4)*5+(sweet=7)*9;");
        Due.is("by law", law.cakeFor(0, 0, 1, 20, 25), 4);
        Due.is("by law, another", law.cakeFor(0, 0, 1, 20, 26), 7);
    }

    private static void chances() {
        BeatenBounds x = walker(50, 0);
        // Of seed 77: 97 60 69 49 49 89 87 9 45 70 in turn; a dry year makes 21 cells, a wet one 11.
        Due.is("one year", x.chance(77, 1, 0, 21), 6);
        Due.is("less", x.chance(77, 1, 0, 11), 10);
        Due.is("more", x.chance(77, 1, 0, 22), 0);
        Due.is("0 cells", x.chance(77, 1, 0, 0), 10);
        Due.is("9999 cells", x.chance(77, 1, 0, 9999), 0);
        Due.is("10000 cells", x.chance(77, 1, 0, 10000), -1);
        Due.is("-1 cells", x.chance(77, 1, 0, -1), -1);
        Due.is("n 0", x.chance(77, 0, 0, 21), -1);
        Due.is("n 99: the last beating is of year 11", x.chance(77, 99, 0, 11), 10);
        Due.is("n 100", x.chance(77, 100, 0, 21), -1);
        // Of seed 0: 0 68 88 17 98 27 45 41 22 10
        Due.is("seed 0", x.chance(0, 1, 0, 21), 3);
        Due.is("seed -1", x.chance(-1, 1, 0, 21), -1);
        Due.is("parish 1", x.chance(77, 1, 1, 21), -1);
        // Of the greatest seed: 29 9 62 18 13 26 80 63 32 34
        Due.is("the greatest seed", x.chance(Integer.MAX_VALUE, 1, 0, 21), 3);
        // Two years: 60 49 89 9 70 66 and so on decide.
        Due.is("two years", x.chance(77, 2, 0, 21), twoYears());
        x.go(1);
        Due.is("its own numbers go on: 0, 68", x.parish(0, 3), 10);
        x.go(1);
        Due.is("its own numbers go on: 0, 68", x.parish(0, 3), 20);
        Due.is("no rain: no numbers", walker(0, 0).chance(77, 1, 0, 21), 10);
        Due.is("rain 100", walker(100, 0).chance(77, 1, 0, 21), 0);
    }

    private static int twoYears() {
        long number = 77;
        int reached = 0;
        for (int k = 1; k <= 20; k++) {
            number = (number * 1103515245L + 12345L) % (1L << 31);
            reached += k % 2 == 0 && number / 65536 % 100 >= 50 ? 1 : 0;
        }
        return reached;
    }

    private static void tries() {
        BeatenBounds x = Texts.of("land 40;parish p 20 20;child a 9 0;child b 4 0;cake p 1 2;rain 50;"
            + "beat p a 1 0;beat p a 2 0;beat p b 0 1;");
        // a right: 11, by 2 is 5; a down: 8, by 2 is 4; b up: 4, by 2 is 2
        Due.is("as it goes", x.ahead(2, 0, 0), 6 * 7);
        Due.is("no year is wet", x.tried(0, 0, 2), 12 * 13);
        Due.is("all are", x.tried(1, 0, 2), 6 * 7);
        Due.is("a isn't led", x.tried(2, 0, 2), 3);
        Due.is("b isn't led", x.tried(2, 1, 2), 6 * 5);
        Due.is("no cakes", x.tried(3, 0, 2), 5 * 7);
        Due.is("nobody is tired", x.tried(4, 0, 2), 6 * 7);
        x.beat(0, 0, 3);
        x.beat(0, 0, 3);
        x.beat(0, 1, 3);
        x.carry(0, 3, 0);
        // a is tired by 2: right 9 by 2, down 6 by 2; b by 1, 0 when led
        Due.is("as it goes", x.ahead(2, 0, 0), 5 * 6);
        Due.is("not now, nor later", x.tried(4, 0, 2), 6 * 7);
        Due.is("n 0", x.tried(4, 0, 0), 1);
        Due.is("n 200", x.tried(1, 0, 200), 5 * 6);
        Due.is("n 201", x.tried(1, 0, 201), -1);
        Due.is("n -1", x.tried(1, 0, -1), -1);
        Due.is("what 5", x.tried(5, 0, 1), -1);
        Due.is("what -1", x.tried(-1, 0, 1), -1);
        Due.is("child 2", x.tried(2, 2, 1), -1);
        Due.is("i of another", x.tried(0, 1, 1), -1);
        Due.is("i of another", x.tried(4, -1, 1), -1);
        Due.is("nothing was done", x.child(0, 2), 2);
        Due.is("cakes are there", x.cake(0, 1), 2);
        BeatenBounds sum = Texts.of("land 9;parish p 4 4;parish q 4 5;child c 2 0;beat p c 1 0;");
        Due.is("areas of all", sum.tried(0, 0, 1), 4);
    }

    private static void undoing() {
        BeatenBounds x = Texts.of("land 20;parish p 10 10;child c 5 0;");
        x.beat(0, 0, 1);
        x.bake(0, 1, 4);
        x.carry(0, 1, 2);
        x.beat(0, 0, 1);
        Due.is("by the cake", x.parish(0, 3), 8);
        Due.is("four", x.count(12), 4);
        Due.is("undo a beating", x.undo(), 3);
        Due.is("its stone", x.parish(0, 3), 2);
        Due.is("its tiredness", x.child(0, 2), 1);
        Due.is("undo a stone", x.undo(), 2);
        Due.is("where it was", x.parish(0, 3), 5);
        Due.is("undo a cake", x.undo(), 1);
        Due.is("no cake", x.cake(0, 1), 0);
        Due.is("go 0 is no year", x.go(0), 0);
        Due.is("undo", x.undo(), 0);
        Due.is("none tired", x.child(0, 2), 0);
        Due.is("no stone", x.parish(0, 3), 0);
        Due.is("none", x.undo(), -1);
        for (int k = 0; k < 25; k++) {
            x.beat(0, 0, 1);
        }
        Due.is("20 at most", x.count(12), 20);
        for (int k = 19; k >= 0; k--) {
            Due.is("undo", x.undo(), k);
        }
        Due.is("the latest 20", x.child(0, 2), 5);
        Due.is("no more", x.undo(), -1);
        x.carry(0, 0, 3);
        x.go(1);
        Due.is("a year went by", x.undo(), -1);
        Due.is("count", x.count(12), 0);
        Due.is("it stays", x.parish(0, 2), 3);
        x.carry(0, 0, 4);
        Due.is("later ones", x.undo(), 0);
        Due.is("as behind the year", x.parish(0, 2), 3);
    }

    private static void images() {
        BeatenBounds x = walker(50, 77);
        Due.is("none", x.back(), -1);
        x.bake(0, 1, 3);
        x.go(2);
        x.beat(0, 0, 2);
        Due.is("keep", x.keep(), 2);
        Due.is("keep leaves what can be undone", x.count(12), 1);
        x.see(1, 0, 20, 0, true);
        x.bake(0, 1, 0);
        x.go(2);
        Due.is("number 4 is 49: wet", x.parish(0, 3), 9);
        Due.is("back", x.back(), 2);
        Due.is("nothing to undo", x.undo(), -1);
        Due.is("cake", x.cake(0, 1), 3);
        Due.is("stone", x.parish(0, 4), 10);
        Due.is("tired", x.child(0, 2), 1);
        Due.is("seen stays", x.count(10), 1);
        x.bake(0, 1, 0);
        x.go(2);
        Due.is("the same numbers again", x.parish(0, 3), 9);
        Due.is("once more", x.back(), 2);
        x.go(5);
        Due.is("in place of it", x.keep(), 7);
        x.go(1);
        Due.is("the later one", x.back(), 7);
        BeatenBounds quarrel = Texts.of("land 9;parish a 0 0;parish b 0 2;child c 1 0;law grow 1;");
        quarrel.carry(0, 1, 2);
        quarrel.go(1);
        quarrel.keep();
        quarrel.go(3);
        Due.is("quarrel", quarrel.count(6), 4);
        quarrel.back();
        Due.is("quarrel then", quarrel.count(6), 1);
        Due.is("legs then", quarrel.child(0, 0), 2);
        Due.is("feed", quarrel.feed(0, 0, 0, 0, 0), 20);
        Due.is("a text with a fault", quarrel.text(20), -1);
        Due.is("leaves the image", quarrel.back(), 1);
        Due.is("a text", quarrel.text(0), 0);
        Due.is("takes it", quarrel.back(), -1);
        outsideImages();
    }

    /** As NOTES.md reads it: the TAPE, the latest FAULT and what is KNOWN are no part of an IMAGE. */
    private static void outsideImages() {
        BeatenBounds x = Texts.of("land 9;parish a 0 0;child c 1 0;");
        x.see(1, 0, 0, 0, true);
        x.feed(0, 0, 0, 0, 0);
        x.keep();
        x.known(0);
        x.feed(0, 0, 0, 0, 0);
        x.back();
        Due.is("what is known", x.count(11), 0);
        Due.is("the tape", x.feed(0, 0, 0, 0, 0), 60);
        x.text(60);
        x.back();
        Due.is("the fault", x.fault(0), 1);
        Due.is("the tape is empty still", x.feed(0, 0, 0, 0, 0), 20);
    }
}
