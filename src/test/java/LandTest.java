/** Promises 6 to 13 and 22 to 27: what is whose, laws, cuts, who touches whom, songs, dry years. */
public final class LandTest {
    private static final String THREE = "land 10;parish a 2 2;parish b 5 5;parish c 2 7;child x 5 3;child y 30 9;";

    public static void main(String[] args) {
        whose();
        wrongOnes();
        touching();
        cuts();
        songs();
        dryYears();
        lawsNow();
        errors();
        Due.end();
    }

    private static void whose() {
        BeatenBounds x = Texts.of(THREE);
        Due.is("row", x.parish(1, 0), 5);
        Due.is("column", x.parish(2, 1), 7);
        Due.is("area at first", x.parish(0, 6), 1);
        x.carry(0, 1, 3);
        x.carry(0, 2, 2);
        x.carry(0, 0, 1);
        x.carry(0, 3, 2);
        Due.is("far up", x.parish(0, 2), 1);
        Due.is("far right", x.parish(0, 3), 3);
        Due.is("far down", x.parish(0, 4), 2);
        Due.is("far left", x.parish(0, 5), 2);
        Due.is("area", x.parish(0, 6), 24);
        // a: rows 1 .. 4, columns 0 .. 5
        Due.is("owners above", x.owners(0, 2), 0);
        Due.is("owners of the first row", x.owners(1, 0), 1);
        Due.is("owners of the last one", x.owners(4, 5), 1);
        Due.is("owners behind", x.owners(4, 6), 0);
        Due.is("owners of b", x.owners(5, 5), 2);
        x.carry(1, 0, 2);
        x.carry(2, 3, 3);
        // b: rows 3 .. 5 of column 5; c: row 2, columns 4 .. 7
        Due.is("overlap a b", x.overlap(0, 1), 2);
        Due.is("overlap b a", x.overlap(1, 0), 2);
        Due.is("overlap a c", x.overlap(0, 2), 2);
        Due.is("overlap b c", x.overlap(1, 2), 0);
        Due.is("taken", x.taken(), 24 + 3 + 4 - 4);
        Due.is("disputed", x.disputed(), 4);
        x.carry(2, 2, 1);
        // c: rows 2, 3
        Due.is("owners of three", x.owners(3, 5), 7);
        Due.is("taken", x.taken(), 24 + 1 + 4);
        Due.is("disputed", x.disputed(), 2 + 2 + 1);
        Due.is("areas", x.count(7), 24 + 3 + 8);
        Due.is("overlaps", x.count(8), 2 + 4 + 1);
        Due.is("legs", x.child(0, 0), 5);
        Due.is("mood", x.child(0, 1), 3);
        Due.is("tired", x.child(0, 2), 0);
        Due.is("legs of y", x.child(1, 0), 30);
        Due.is("mood of y", x.child(1, 1), 9);
        BeatenBounds cakes = Texts.of("parish a 2 2;parish b 5 5;cake b 3 9;cake a 0 1;");
        Due.is("cake", cakes.cake(1, 3), 9);
        Due.is("cake", cakes.cake(0, 0), 1);
        Due.is("no cake", cakes.cake(0, 3), 0);
    }

    private static void wrongOnes() {
        BeatenBounds x = Texts.of(THREE);
        Due.is("parish 3", Whole.thrown(x, 3, 0), 1);
        Due.is("parish -1", Whole.thrown(x, -1, 7), 1);
        Due.is("parish, neither", Whole.thrown(x, 3, 8), 1);
        Due.is("parish what 8", Whole.thrown(x, 2, 8), 2);
        Due.is("parish what -1", Whole.thrown(x, 0, -1), 2);
        Due.is("parish what 7", Whole.thrown(x, 0, 7), 0);
        Due.is("parish of a new object", Whole.thrown(new BeatenBounds(), 0, 0), 1);
        Due.is("child 2", x.child(2, 0), -1);
        Due.is("child -1", x.child(-1, 0), -1);
        Due.is("child what 3", x.child(0, 3), -1);
        Due.is("child what -1", x.child(0, -1), -1);
        Due.is("cake 3", x.cake(3, 0), -1);
        Due.is("cake -1", x.cake(-1, 0), -1);
        Due.is("cake way 4", x.cake(0, 4), -1);
        Due.is("cake way -1", x.cake(0, -1), -1);
        Due.is("owners row 10", x.owners(10, 0), -1);
        Due.is("owners column 10", x.owners(0, 10), -1);
        Due.is("owners row -1", x.owners(-1, 0), -1);
        Due.is("owners column -1", x.owners(0, -1), -1);
        Due.is("overlap alike", x.overlap(1, 1), -1);
        Due.is("overlap 3", x.overlap(0, 3), -1);
        Due.is("overlap -1", x.overlap(-1, 0), -1);
        Due.is("cut alike", x.cut(1, 1, 0), -1);
        Due.is("cut 3", x.cut(0, 3, 0), -1);
        Due.is("cut what 3", x.cut(0, 1, 3), -1);
        Due.is("cut what -1", x.cut(0, 1, -1), -1);
        Due.is("rests alike", x.rests(0, 0), -1);
        Due.is("rests 3", x.rests(3, 0), -1);
        Due.is("rest alike", x.rest(0, 0, 0), -1);
        Due.is("rest -1", x.rest(0, 1, -1), -1);
        Due.is("rest 9", x.rest(0, 1, 9), -2);
        Due.is("law walk of a child", x.law(0, 2, 0, 0), Long.MIN_VALUE);
        Due.is("dry 7", x.dry(7, 0), -1);
        Due.is("dry -1", x.dry(-1, 0), -1);
        Due.is("dry what 2", x.dry(1, 2), -1);
        Due.is("dry what -1", x.dry(1, -1), -1);
    }

    private static void touching() {
        BeatenBounds corner = Texts.of("land 5;parish a 1 1;parish b 2 2;");
        Due.is("corners don't touch", corner.parish(0, 7), 0);
        Due.is("two realms", corner.realms(), 2);
        Due.is("one colour", corner.colours(), 1);
        BeatenBounds gap = Texts.of("land 5;parish a 1 1;parish b 1 3;");
        Due.is("a gap", gap.parish(0, 7), 0);
        gap.carry(0, 1, 1);
        Due.is("side by side", gap.parish(0, 7), 2);
        Due.is("likewise", gap.parish(1, 7), 1);
        Due.is("one realm", gap.realms(), 1);
        Due.is("two colours", gap.colours(), 2);
        BeatenBounds below = Texts.of("land 5;parish a 1 1;parish b 2 1;");
        Due.is("one below the other", below.parish(1, 7), 1);
        BeatenBounds square = Texts.of("land 9;parish a 3 3;parish b 3 4;parish c 4 3;parish d 4 4;");
        Due.is("a touches", square.parish(0, 7), 6);
        Due.is("d touches", square.parish(3, 7), 6);
        Due.is("a ring of four", square.colours(), 2);
        Due.is("its realm", square.realms(), 1);
        square.carry(0, 1, 1);
        square.carry(0, 2, 1);
        Due.is("a touches all", square.parish(0, 7), 14);
        Due.is("three colours", square.colours(), 3);
        square.carry(1, 2, 1);
        Due.is("four colours", square.colours(), 4);
        BeatenBounds row = Texts.of("land 9;parish a 0 0;parish b 0 6;parish c 0 3;parish d 8 8;");
        Due.is("four realms", row.realms(), 4);
        row.carry(2, 3, 2);
        Due.is("three realms", row.realms(), 3);
        row.carry(2, 1, 2);
        Due.is("hanging together by the third", row.realms(), 2);
        Due.is("two colours", row.colours(), 2);
        Due.is("none", new BeatenBounds().realms(), 0);
        Due.is("no colours", new BeatenBounds().colours(), 0);
    }

    /** a covers all, so that the overlap is b's land. */
    private static BeatenBounds covered(int up, int right, int down, int left) {
        BeatenBounds x = Texts.of("land 20;parish a 0 0;parish b 10 10;");
        x.carry(0, 1, 19);
        x.carry(0, 2, 19);
        x.carry(1, 0, up);
        x.carry(1, 1, right);
        x.carry(1, 2, down);
        x.carry(1, 3, left);
        return x;
    }

    private static void cut(String told, BeatenBounds x, int kind, int behind, int differ) {
        Due.is(told + ": kind", x.cut(0, 1, 0), kind);
        Due.is(told + ": behind", x.cut(0, 1, 1), behind);
        Due.is(told + ": differ", x.cut(1, 0, 2), differ);
    }

    private static void cuts() {
        cut("one cell", covered(0, 0, 0, 0), -2, -2, -2);
        Due.is("one cell, no such what", covered(0, 0, 0, 0).cut(0, 1, 3), -1);
        cut("no cell", Texts.of("parish a 0 0;parish b 10 10;"), -2, -2, -2);
        cut("two cells in a row", covered(0, 1, 0, 0), 1, 1, 0);
        cut("two rows", covered(0, 0, 1, 0), 0, 1, 0);
        cut("two by two: rows ahead", covered(1, 1, 0, 0), 0, 1, 0);
        cut("three in a column: the first line", covered(1, 0, 1, 0), 0, 1, 1);
        cut("three rows, two columns", covered(1, 1, 1, 0), 1, 1, 0);
        cut("three rows, five columns", covered(1, 2, 1, 2), 1, 2, 3);
        cut("five rows, three columns", covered(2, 1, 2, 1), 0, 2, 3);
        cut("three by three", covered(1, 1, 1, 1), 0, 1, 3);
        cut("one row of five", covered(0, 2, 0, 2), 1, 2, 1);
    }

    private static void songs() {
        BeatenBounds x = covered(1, 1, 0, 0);
        // OVERLAP 4, AREAS 400 and 4: alone in silence the first has -40, the second 0.
        Due.is("rests", x.rests(0, 1), 1);
        Due.is("the first sings", x.rest(0, 1, 0), 1);
        Due.is("no second one", x.rest(0, 1, 1), -2);
        Due.is("the other way round", x.rest(1, 0, 0), 10);
        BeatenBounds apart = Texts.of("land 20;parish a 0 0;parish b 10 10;");
        // All have 0 however they sing: each is a REST.
        Due.is("all rest", apart.rests(0, 1), 4);
        Due.is("0", apart.rest(0, 1, 0), 0);
        Due.is("1", apart.rest(0, 1, 1), 1);
        Due.is("2", apart.rest(0, 1, 2), 10);
        Due.is("3", apart.rest(0, 1, 3), 11);
        Due.is("4", apart.rest(0, 1, 4), -2);
        apart.carry(0, 1, 9);
        // AREA 10: silence costs the first 1 while the second sings.
        Due.is("fewer rest", apart.rests(0, 1), 3);
        Due.is("which", apart.rest(0, 1, 2), 11);
        // OVERLAP 1, AREAS 11 and 12: both stopping is worth 0, singing alone 1.
        BeatenBounds one = Texts.of("land 20;parish a 0 0;parish b 0 10;");
        one.carry(0, 1, 10);
        one.carry(1, 2, 11);
        Due.is("overlap", one.overlap(0, 1), 1);
        // Both sing: -1 each, and stopping is -1, too: no more.
        Due.is("rests", one.rests(0, 1), 3);
        Due.is("both sing", one.rest(0, 1, 0), 0);
        Due.is("the first", one.rest(0, 1, 1), 1);
        Due.is("the second", one.rest(0, 1, 2), 10);
    }

    private static void dryYears() {
        long[][] due = {{0, 3, 1, 1}, {100, 3, 0, 1}, {100, 0, 1, 1}, {50, 6, 1, 64}, {30, 2, 49, 100},
            {1, 6, 941480149401L, 1000000000000L}, {99, 6, 1, 1000000000000L}, {25, 3, 27, 64}, {40, 1, 3, 5}};
        for (long[] one : due) {
            BeatenBounds x = Texts.of("rain " + one[0] + ";");
            Due.is("dry above, rain " + one[0], x.dry((int) one[1], 0), one[2]);
            Due.is("dry below, rain " + one[0], x.dry((int) one[1], 1), one[3]);
        }
    }

    private static void lawsNow() {
        String head = "land 10;parish a 2 2;parish b 5 5;child x 5 3;child y 7 4;cake b 1 6;";
        BeatenBounds x = Texts.of(head + "rain 50;law walk legs+mood*100+tired*1000+sweet*2000+wet*5000+far*9000;"
            + "law quarl legs+mood+tired+sweet+wet*1000+far;law grow legs+mood*100+tired*1000+sweet+far+wet*5000;");
        x.carry(1, 1, 4);
        x.beat(0, 1, 2);
        Due.is("walk", x.law(0, 1, 1, 1), 7 + 400 + 1000 + 12000 + 5000 + 36000);
        Due.is("walk without a cake", x.law(0, 0, 1, 2), 5 + 300 + 5000);
        Due.is("quarl apart", x.law(1, 0, 1, -5), 1000);
        x.carry(0, 1, 5);
        x.carry(1, 0, 3);
        // a: rows 2 .. 9 by y's beating, columns 2 .. 7; b: rows 2 .. 5, columns 5 .. 9
        Due.is("quarl", x.law(1, 1, 0, 9), 1000 + 12);
        Due.is("grow", x.law(2, 1, 77, -77), 7 + 400 + 1000 + 5000);
        Due.is("quarl, of no child just asked", x.law(1, 1, 0, 9), 1000 + 12);
        Due.is("walk of a parish", x.law(0, 0, 2, 0), Long.MIN_VALUE);
        Due.is("walk of a way", x.law(0, 0, 0, 4), Long.MIN_VALUE);
        Due.is("quarl alike", x.law(1, 0, 0, 0), Long.MIN_VALUE);
        Due.is("quarl of no parish", x.law(1, 0, 2, 0), Long.MIN_VALUE);
        Due.is("grow of no child", x.law(2, 2, 0, 0), Long.MIN_VALUE);
        Due.is("no such law", x.law(3, 0, 1, 0), Long.MIN_VALUE);
        Due.is("no such law", x.law(-1, 0, 1, 0), Long.MIN_VALUE);
        BeatenBounds dry = Texts.of(head + "rain 49;law quarl wet;law grow year*10+wet;");
        Due.is("not told", dry.law(0, 0, 0, 0), Long.MIN_VALUE);
        Due.is("dry by call below 50", dry.law(1, 0, 1, 0), 0);
        dry.go(7);
        Due.is("year", dry.law(2, 0, 0, 0), 70);
    }

    private static void grows(String law, long due) {
        Due.is(law, Texts.of("child x 5 3;law grow " + law + ";").law(2, 0, 0, 0), due);
    }

    private static void errors() {
        grows("2+3*4", 14);
        grows("(2+3)*4", 20);
        grows("10-4-3", 3);
        grows("100/5/2", 10);
        grows("7/2", 3);
        grows("(0-7)/2", -3);
        grows("7/(0-2)", -3);
        grows("2*7/3", 4);
        grows("1+1=2", 1);
        grows("2<2", 0);
        grows("2<=2", 1);
        grows("2<>2", 0);
        grows("2>=2", 1);
        grows("2>2", 0);
        grows("3>2", 1);
        grows("5 and 7", 1);
        grows("5 and 0", 0);
        grows("0 or 9", 1);
        grows("0 or 0", 0);
        grows("1 or 0 and 0", 1);
        grows("not 5", 0);
        grows("not not 5", 1);
        grows("not 1=2", 1);
        grows("not 0+5", 0);
        grows("not 1 or 1", 1);
        grows("not 1 and 0 or 0", 0);
        grows("0-5 and 1", 1);
        grows("legs<mood or mood<legs", 1);
        grows("1000*1000*1000*1000", 1000000000000L);
        grows("1000*1000*1000*1000+1", Long.MIN_VALUE);
        grows("0-1000*1000*1000*1000", -1000000000000L);
        grows("0-1000*1000*1000*1000-1", Long.MIN_VALUE);
        grows("(0-1000)*1000*1000*1000", -1000000000000L);
        grows("1001*1000*1000*1000", Long.MIN_VALUE);
        grows("(1000*1000*1000*1000)*(1000*1000*1000*1000)", Long.MIN_VALUE);
        // 2 to the 64 would be 0 in a long.
        grows("(256*256*256*256)*(256*256*256*256)", Long.MIN_VALUE);
        grows("(256*256*256*256)*(0-256*256*256*256)", Long.MIN_VALUE);
        grows("0*(1000*1000*1000*1000)", 0);
        grows("(1000*1000*1000*1000)*0", 0);
        grows("(1000*1000*1000*1000)*(0-1)", -1000000000000L);
        grows("9999*9999*9999", 999700029999L);
        grows("9999*9999*9999*2-9999*9999*9999*2", Long.MIN_VALUE);
        grows("1/0", Long.MIN_VALUE);
        grows("0/0", Long.MIN_VALUE);
        grows("1 or 1/0", Long.MIN_VALUE);
        grows("0 and 1/0", Long.MIN_VALUE);
        grows("0*(1/(1-1))", Long.MIN_VALUE);
        grows("1/far", Long.MIN_VALUE);
    }
}
