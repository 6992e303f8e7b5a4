/** The edges of lands, names, values, touching, songs, dry years, and of promises 6 to 13 and 22 to 27. */
final class EdgesOfLands {
    private static final String TWO = "land 9;parish p 4 4;parish q 4 5;child c 3 2;child d 7 8;cake p 1 6;cake q 1 4;";
    private static final long ERROR = Long.MIN_VALUE;

    private EdgesOfLands() {
    }

    static void run() {
        stones();
        lands();
        overlaps();
        namesOfChildren();
        namesOfYears();
        values();
        errors();
        takenAndDisputed();
        cuts();
        touching();
        realmsAndColours();
        songs();
        dryYears();
        parish();
        child();
        cake();
        owners();
        overlap();
        takenAndDisputedByCall();
        law();
        cut();
        realmsAndColoursByCall();
        rests();
        rest();
        dry();
    }

    private static void stones() {
        Doc.terms("STONES: FAR of a PARISH and a WAY, how many cells from the church (0 at first).");
        BeatenBounds x = Texts.of(TWO);
        for (int parish = 0; parish < 2; parish++) {
            for (int what = 2; what <= 5; what++) {
                Due.is("at first", x.parish(parish, what), 0);
            }
            Due.is("its church alone", x.parish(parish, 6), 1);
        }
        x.carry(0, 0, 3);
        Due.is("three cells up", x.owners(1, 4), 1);
        Due.is("no further", x.owners(0, 4), 0);
        Due.is("of this way", x.parish(0, 2), 3);
        Due.is("of no other way", x.parish(0, 4), 0);
        Due.is("of no other parish", x.parish(1, 2), 0);
    }

    private static void lands() {
        Doc.terms("The land of a PARISH: all cells whose ROW is from FAR up to FAR down, "
            + "and whose COLUMN is from FAR left to FAR right, of the church.");
        BeatenBounds x = Texts.of("land 9;parish p 4 4;");
        for (int way = 0; way < 4; way++) {
            x.carry(0, way, way + 1);
        }
        for (int row = 0; row < 9; row++) {
            for (int column = 0; column < 9; column++) {
                boolean its = row >= 3 && row <= 7 && column >= 0 && column <= 6;
                Due.is("cell " + row + " " + column, x.owners(row, column), its ? 1 : 0);
            }
        }
        Doc.terms("AREA: how many.");
        Due.is("area", x.parish(0, 6), 35);
        Due.is("of the church", Texts.of("land 9;parish p 4 4;").parish(0, 6), 1);
        Due.is("of the smallest land", covering(5).parish(0, 6), 25);
        Due.is("of the largest land", covering(40).parish(0, 6), 1600);
    }

    /** Parish 0 has the whole land, parish 1 the last cell. */
    private static BeatenBounds covering(int size) {
        BeatenBounds x = Texts.of("land " + size + ";parish p 0 0;parish q " + (size - 1) + " " + (size - 1) + ";");
        x.carry(0, 1, size - 1);
        x.carry(0, 2, size - 1);
        return x;
    }

    private static void overlaps() {
        Doc.terms("OVERLAP of two: how many cells are of both.");
        BeatenBounds x = Texts.of("land 9;parish p 2 2;parish q 6 6;");
        Due.is("apart in both", x.overlap(0, 1), 0);
        x.carry(0, 1, 6);
        Due.is("columns in common, no row", x.overlap(0, 1), 0);
        x.carry(0, 2, 3);
        Due.is("side by side", x.overlap(0, 1), 0);
        x.carry(0, 2, 4);
        Due.is("one cell", x.overlap(0, 1), 1);
        x.carry(1, 3, 6);
        x.carry(1, 0, 1);
        // p: rows 2 .. 6, columns 2 .. 8; q: rows 5, 6, columns 0 .. 6
        Due.is("crossing", x.overlap(0, 1), 10);
        BeatenBounds all = covering(40);
        Due.is("one within the other", all.overlap(0, 1), 1);
        all.carry(1, 0, 39);
        all.carry(1, 3, 39);
        Due.is("all cells", all.overlap(0, 1), 1600);
    }

    private static BeatenBounds naming(String name, int rain) {
        return Texts.of(TWO + "rain " + rain + ";law walk " + name + ";law quarl " + name + ";law grow " + name + ";");
    }

    private static void namesOfChildren() {
        Doc.terms("NAMES, of the CHILD: legs: LEGS;");
        BeatenBounds legs = naming("legs", 0);
        Due.is("walk", legs.law(0, 0, 0, 1), 3);
        Due.is("walk of the other", legs.law(0, 1, 0, 1), 7);
        Due.is("grow", legs.law(2, 1, 0, 0), 7);
        legs.go(1);
        Due.is("grown", legs.law(2, 0, 0, 0), 6);
        Doc.terms("mood: MOOD;");
        BeatenBounds mood = naming("mood", 0);
        Due.is("walk", mood.law(0, 0, 0, 1), 2);
        Due.is("walk of the other", mood.law(0, 1, 0, 1), 8);
        Due.is("grow", mood.law(2, 1, 0, 0), 8);
        Doc.terms("tired: how TIRED (of quarl these 0);");
        BeatenBounds tired = naming("tired", 0);
        tired.beat(0, 1, 0);
        tired.beat(0, 1, 0);
        Due.is("as tired ahead of being led", tired.beat(0, 1, 0), 2);
        Due.is("walk", tired.law(0, 1, 0, 1), 3);
        Due.is("walk of the other", tired.law(0, 0, 0, 1), 0);
        Due.is("grow", tired.law(2, 1, 0, 0), 3);
        for (BeatenBounds x : new BeatenBounds[] {legs, mood, tired}) {
            // Asked right behind a child's.
            x.law(2, 1, 0, 0);
            Due.is("of quarl", x.law(1, 0, 1, 0), 0);
        }
        Doc.terms("sweet: SIZE of the CAKE of that WAY (of quarl, grow 0);");
        BeatenBounds sweet = naming("sweet", 0);
        Due.is("walk", sweet.law(0, 0, 0, 1), 6);
        Due.is("of another way", sweet.law(0, 0, 0, 0), 0);
        Due.is("of another parish", sweet.law(0, 0, 1, 1), 4);
        Due.is("of quarl", sweet.law(1, 0, 1, 1), 0);
        sweet.law(0, 0, 0, 1);
        Due.is("of grow", sweet.law(2, 0, 0, 1), 0);
        sweet.bake(0, 0, 9);
        Due.is("baked", sweet.law(0, 0, 0, 0), 9);
    }

    private static void namesOfYears() {
        Doc.terms("wet: 1 in a WET YEAR, else 0;");
        int[] rains = {0, 49, 50, 100};
        for (int rain : rains) {
            BeatenBounds wet = naming("wet", rain);
            Due.is("walk", wet.law(0, 0, 0, 0), rain >= 50 ? 1 : 0);
            Due.is("quarl", wet.law(1, 0, 1, 0), rain >= 50 ? 1 : 0);
            Due.is("grow", wet.law(2, 0, 0, 0), rain >= 50 ? 1 : 0);
        }
        // Of seed 77 the numbers are 97 60 69 49 49 89 modulo 100: years 3 and 4 are wet.
        BeatenBounds years = Texts.of(TWO + "rain 50;seed 77;law grow wet;law quarl wet;law walk 1+wet;"
            + "beat p c 1 2;beat p c 1 3;");
        int[] legs = {3, 3, 3, 4, 5, 5};
        int[] quarrel = {0, 0, 0, 1, 2, 2};
        for (int year = 0; year < 6; year++) {
            years.go(1);
            Due.is("legs behind " + year, years.child(0, 0), legs[year]);
            Due.is("quarrel behind " + year, years.count(6), quarrel[year]);
            Due.is("far behind " + year, years.parish(0, 3), year < 2 ? 0 : year == 2 ? 1 : 2);
        }
        Doc.terms("far: FAR as it is (of quarl OVERLAP, of grow 0);");
        BeatenBounds far = naming("far", 0);
        far.carry(0, 1, 3);
        Due.is("walk", far.law(0, 0, 0, 1), 3);
        Due.is("of another way", far.law(0, 0, 0, 0), 0);
        Due.is("of another parish", far.law(0, 0, 1, 1), 0);
        Due.is("quarl", far.law(1, 0, 1, 0), 1);
        far.carry(1, 1, 3);
        Due.is("quarl", far.law(1, 1, 0, 0), 3);
        far.carry(0, 1, 0);
        Due.is("quarl of none", far.law(1, 1, 0, 0), 0);
        far.law(0, 0, 1, 1);
        Due.is("grow", far.law(2, 0, 1, 1), 0);
        Doc.terms("year: the YEAR.");
        BeatenBounds year = naming("year", 0);
        Due.is("at first", year.law(0, 0, 0, 0), 0);
        year.go(199);
        Due.is("walk", year.law(0, 0, 0, 0), 199);
        Due.is("quarl", year.law(1, 0, 1, 0), 199);
        Due.is("grow", year.law(2, 0, 0, 0), 199);
        // Year 0 adds nothing, year 1 one, year 2 two; led in year 3 it's three cells.
        BeatenBounds going = Texts.of("land 9;parish p 4 4;child c 1 0;law grow year;law walk year;beat p c 1 3;");
        int[] legsBehind = {1, 2, 4, 7};
        for (int k = 0; k < 4; k++) {
            going.go(1);
            Due.is("legs behind " + k, going.child(0, 0), legsBehind[k]);
        }
        Due.is("led", going.parish(0, 3), 3);
    }

    private static void grows(String law, long due) {
        EdgesOfLanguage.grows(law, due);
    }

    private static void values() {
        Doc.terms("VALUES are longs;");
        grows("9999*9999", 99980001L);
        grows("9999*9999*9999", 999700029999L);
        grows("0-9999*9999*9999", -999700029999L);
        grows("256*256*256*256-1", 4294967295L);
        grows("9999*9999*9999/9999", 99980001L);
        Doc.terms("comparisons, and, or, not are 1 or 0 (what isn't 0 is as 1, both sides are worked out),");
        String[] signs = {"<", "<=", "=", "<>", ">=", ">"};
        int[] below = {1, 1, 0, 1, 0, 0};
        int[] alike = {0, 1, 1, 0, 1, 0};
        int[] above = {0, 0, 0, 1, 1, 1};
        for (int k = 0; k < signs.length; k++) {
            grows("1" + signs[k] + "2", below[k]);
            grows("2" + signs[k] + "2", alike[k]);
            grows("3" + signs[k] + "2", above[k]);
            grows("0-1" + signs[k] + "0", below[k]);
            grows("1" + signs[k] + "1/0", ERROR);
        }
        grows("7 and 9", 1);
        grows("7 and 0", 0);
        grows("0 and 7", 0);
        grows("0 and 0", 0);
        grows("7 or 9", 1);
        grows("7 or 0", 1);
        grows("0 or 7", 1);
        grows("0 or 0", 0);
        grows("not 7", 0);
        grows("not 0", 1);
        grows("not (0-7)", 0);
        grows("(0-7) and (0-9)", 1);
        grows("(0-7) or 0", 1);
        grows("9999*9999*9999 and 1", 1);
        grows("256*256*256*256 or 0", 1);
        grows("(1<2)+(2<3)+(7 or 0)+(7 and 9)+(not 0)", 5);
        grows("1 or 1/0", ERROR);
        grows("1/0 or 1", ERROR);
        grows("0 and 1/0", ERROR);
        grows("not (1/0)", ERROR);
        Doc.terms("/ is cut towards 0;");
        grows("7/2", 3);
        grows("(0-7)/2", -3);
        grows("7/(0-2)", -3);
        grows("(0-7)/(0-2)", 3);
        grows("1/2", 0);
        grows("(0-1)/2", 0);
        grows("0/7", 0);
    }

    private static void errors() {
        Doc.terms("ERROR: / by 0, a value above 10 to the 12 or below 0 by more than that.");
        String most = "1000*1000*1000*1000";
        grows("1/0", ERROR);
        grows("0/0", ERROR);
        grows("1/(legs-5)", ERROR);
        grows("0*(1/0)", ERROR);
        grows(most, 1000000000000L);
        grows(most + "+1", ERROR);
        grows(most + "-1+1", 1000000000000L);
        grows("0-" + most, -1000000000000L);
        grows("0-" + most + "-1", ERROR);
        grows("(0-1000)*1000*1000*1000", -1000000000000L);
        grows("(0-1001)*1000*1000*1000", ERROR);
        grows("1001*1000*1000*1000", ERROR);
        // On the way it counts, too, however little comes of it.
        grows(most + "+1-1", ERROR);
        grows("(" + most + "+1)*0", ERROR);
        grows("(" + most + "+1)/9999", ERROR);
        grows("(" + most + "+1)>0", ERROR);
        grows("not (" + most + "+1)", ERROR);
        grows("(" + most + "+1) or 1", ERROR);
        grows("(" + most + ")*0", 0);
        grows("0*(" + most + ")", 0);
        grows("(" + most + ")*(0-1)", -1000000000000L);
        grows("(0-1)*(" + most + ")", -1000000000000L);
        grows("(0-" + most + ")*(0-1)", 1000000000000L);
        grows("(0-" + most + ")/(0-1)", 1000000000000L);
        grows("(" + most + ")*2", ERROR);
        grows("2*(" + most + ")", ERROR);
        // What would wrap round in a long to something small.
        grows("(256*256*256*256)*(256*256*256*256)", ERROR);
        grows("(256*256*256*256)*(0-256*256*256*256)", ERROR);
        grows("(" + most + ")*(" + most + ")", ERROR);
    }

    private static void takenAndDisputed() {
        Doc.terms("TAKEN: cells of one PARISH at least.");
        BeatenBounds x = Texts.of("land 5;parish p 1 1;parish q 3 3;parish r 1 3;");
        Due.is("three churches", x.taken(), 3);
        x.carry(0, 1, 2);
        Due.is("one of two, and two more", x.taken(), 4);
        x.carry(2, 2, 2);
        Due.is("r's", x.taken(), 5);
        Due.is("all", covering(40).taken(), 1600);
        Doc.terms("DISPUTED: cells of two at least.");
        Due.is("p and r's, r and q's", x.disputed(), 2);
        x.carry(0, 2, 2);
        // p: rows 1 .. 3, columns 1 .. 3, so q's cell is of all three
        Due.is("r's three", x.disputed(), 3);
        Due.is("of all three", x.owners(3, 3), 7);
        Due.is("none", Texts.of("land 5;parish p 1 1;parish q 1 2;").disputed(), 0);
        BeatenBounds all = covering(40);
        all.carry(1, 0, 39);
        all.carry(1, 3, 39);
        Due.is("all", all.disputed(), 1600);
    }

    /** q's land is as many rows and columns of p's. */
    private static BeatenBounds block(int rows, int columns) {
        BeatenBounds x = covering(12);
        x.carry(1, 0, rows - 1);
        x.carry(1, 3, columns - 1);
        return x;
    }

    private static void cuts() {
        Doc.terms("CUT of an OVERLAP: by a line between two of its ROWS or of its COLUMNS, "
            + "so that both parts in cells differ least,");
        for (int rows = 1; rows <= 7; rows++) {
            for (int columns = 1; columns <= 7; columns++) {
                BeatenBounds x = block(rows, columns);
                Due.is("by how many, " + rows + " " + columns, x.cut(0, 1, 2), least(rows, columns)[2]);
            }
        }
        Doc.terms("of several ROWS ahead of COLUMNS, then the first line.");
        for (int rows = 1; rows <= 7; rows++) {
            for (int columns = 1; columns <= 7; columns++) {
                BeatenBounds x = block(rows, columns);
                Due.is("which, " + rows + " " + columns, x.cut(0, 1, 0), least(rows, columns)[0]);
                Due.is("behind, " + rows + " " + columns, x.cut(0, 1, 1), least(rows, columns)[1]);
            }
        }
        Due.is("three rows: behind the first", block(3, 1).cut(0, 1, 1), 1);
        Due.is("two by two: rows", block(2, 2).cut(0, 1, 0), 0);
    }

    /** Each line is tried. */
    private static int[] least(int rows, int columns) {
        int[] best = {-2, -2, -2};
        for (int line = 1; line < rows + columns - 1; line++) {
            boolean between = line < rows;
            int behind = between ? line : line - rows + 1;
            int ahead = between ? behind * columns : behind * rows;
            int differ = Math.abs(rows * columns - 2 * ahead);
            if (best[0] < 0 || differ < best[2]) {
                best = new int[] {between ? 0 : 1, behind, differ};
            }
        }
        return best;
    }

    private static void touching() {
        Doc.terms("TOUCH: two PARISHES whose lands share a cell or have cells side by side.");
        for (int row = 0; row < 7; row++) {
            for (int column = 0; column < 7; column++) {
                if (row != 3 || column != 3) {
                    BeatenBounds x = Texts.of("land 7;parish p 3 3;parish q " + row + " " + column + ";");
                    boolean next = Math.abs(row - 3) + Math.abs(column - 3) == 1;
                    Due.is("churches", x.parish(0, 7), next ? 2 : 0);
                    for (int way = 0; way < 4; way++) {
                        x.carry(0, way, 1);
                    }
                    // p: rows and columns 2 .. 4
                    int off = Math.max(Math.abs(row - 3) - 1, 0) + Math.max(Math.abs(column - 3) - 1, 0);
                    Due.is("p to q at " + row + " " + column, x.parish(0, 7), off <= 1 ? 2 : 0);
                    Due.is("q to p at " + row + " " + column, x.parish(1, 7), off <= 1 ? 1 : 0);
                }
            }
        }
        // Both of three by three cells: a gap of one row or column parts them, however long their sides are.
        for (int row = 1; row < 12; row++) {
            for (int column = 1; column < 12; column++) {
                if (row != 6 || column != 6) {
                    BeatenBounds x = Texts.of("land 13;parish p 6 6;parish q " + row + " " + column + ";");
                    for (int way = 0; way < 4; way++) {
                        x.carry(0, way, 1);
                        x.carry(1, way, 1);
                    }
                    int off = Math.max(Math.abs(row - 6) - 2, 0) + Math.max(Math.abs(column - 6) - 2, 0);
                    Due.is("larger p to q at " + row + " " + column, x.parish(0, 7), off <= 1 ? 2 : 0);
                    Due.is("larger q to p at " + row + " " + column, x.parish(1, 7), off <= 1 ? 1 : 0);
                }
            }
        }
    }

    private static void realmsAndColours() {
        Doc.terms("REALMS: into how many sets PARISHES fall, if those that TOUCH hang together.");
        // Told in another order than they lie in: a chain a d b c.
        BeatenBounds x = Texts.of("land 9;parish a 0 0;parish b 0 4;parish c 0 6;parish d 0 2;");
        Due.is("each alone", x.realms(), 4);
        x.carry(2, 3, 1);
        Due.is("b and c", x.realms(), 3);
        x.carry(0, 1, 1);
        Due.is("a and d, too", x.realms(), 2);
        x.carry(3, 1, 1);
        Due.is("all by others", x.realms(), 1);
        Due.is("though a and c don't touch", x.parish(0, 7), 8);
        Doc.terms("COLOURS: how many are needed at least, so that PARISHES that TOUCH have unlike ones.");
        Due.is("a chain", x.colours(), 2);
        Due.is("one", Texts.of("land 9;parish a 0 0;").colours(), 1);
        Due.is("two that don't touch", Texts.of("land 9;parish a 0 0;parish b 1 1;").colours(), 1);
        Due.is("two that do", Texts.of("land 9;parish a 0 0;parish b 0 1;").colours(), 2);
        BeatenBounds ring = Texts.of("land 9;parish a 3 3;parish b 4 4;parish c 3 4;parish d 4 3;");
        Due.is("a ring of four", ring.colours(), 2);
        ring.carry(0, 1, 1);
        ring.carry(0, 2, 1);
        Due.is("three that touch each other", ring.colours(), 3);
        ring.carry(2, 3, 1);
        ring.carry(2, 2, 1);
        Due.is("all touch each other", ring.colours(), 4);
        BeatenBounds star = Texts.of("land 9;parish a 3 1;parish b 1 3;parish c 5 3;parish d 3 3;");
        for (int way = 0; way < 4; way++) {
            star.carry(3, way, 1);
        }
        Due.is("a star", star.colours(), 2);
    }

    /** OVERLAP 1: p is a row of so many cells, q a column, from p's last one down. */
    private static BeatenBounds crossed(int row, int column) {
        BeatenBounds x = Texts.of("land 40;parish p 0 0;parish q 0 " + (row - 1) + ";");
        x.carry(0, 1, row - 1);
        x.carry(1, 2, column - 1);
        return x;
    }

    private static void sings(BeatenBounds x, int... due) {
        Due.is("rests", x.rests(0, 1), due.length);
        for (int k = 0; k < due.length; k++) {
            Due.is("rest " + k, x.rest(0, 1, k), due[k]);
        }
        Due.is("no more", x.rest(0, 1, due.length), -2);
    }

    private static void songs() {
        Doc.terms("SING of two PARISHES: each sings on (0) or stops (1): both sing: each has 0 less OVERLAP; "
            + "one sings alone: it has OVERLAP, the other one 0 less its AREA by 10, cut; "
            + "both stop: each OVERLAP by 2, cut.");
        // AREAS 9, 10, 19, 20 by 10 are 0, 1, 1, 2; OVERLAP is 1.
        sings(crossed(9, 9), 1, 10);
        sings(crossed(9, 20), 10);
        sings(crossed(20, 9), 1);
        sings(crossed(10, 10), 0, 1, 10);
        sings(crossed(10, 19), 0, 1, 10);
        sings(crossed(19, 20), 0, 10);
        sings(crossed(20, 19), 0, 1);
        sings(crossed(20, 20), 0);
        sings(crossed(9, 19), 1, 10);
        // OVERLAP 2: by 2 it is 1, less than to sing alone.
        BeatenBounds two = Texts.of("land 40;parish p 0 0;parish q 0 5;");
        two.carry(0, 1, 6);
        two.carry(1, 1, 1);
        sings(two, 1, 10);
        Doc.terms("A REST: neither would have more otherwise.");
        // OVERLAP 0: to stop costs AREA by 10 while the other one sings, else nothing.
        BeatenBounds apart = Texts.of("land 40;parish p 0 0;parish q 9 0;");
        sings(apart, 0, 1, 10, 11);
        apart.carry(0, 1, 8);
        sings(apart, 0, 1, 10, 11);
        apart.carry(0, 1, 9);
        sings(apart, 0, 1, 11);
        apart.carry(1, 1, 9);
        sings(apart, 0, 11);
        Doc.terms("RESTS: by the first one's, then the second one's.");
        BeatenBounds order = crossed(20, 9);
        Due.is("the first one sings", order.rest(0, 1, 0), 1);
        Due.is("asked the other way round", order.rest(1, 0, 0), 10);
        sings(crossed(10, 10), 0, 1, 10);
    }

    private static void dryYears() {
        Doc.terms("DRY for n YEARS: how likely none is WET, as a fraction.");
        BeatenBounds x = Texts.of("rain 10;");
        long above = 1;
        long below = 1;
        for (int n = 0; n <= 6; n++) {
            Due.is("above " + n, x.dry(n, 0), above);
            Due.is("below " + n, x.dry(n, 1), below);
            above *= 9;
            below *= 10;
        }
        x.go(5);
        Due.is("years don't matter", x.dry(2, 0), 81);
    }

    private static void parish() {
        Doc.promise(6, "Of a PARISH now, what 0 ROW, 1 COLUMN of the church, 2 .. 5 FAR of the WAY 0 .. 3, 6 AREA, "
            + "7 PARISHES (bits) it TOUCHES.");
        BeatenBounds x = Texts.of("land 9;parish a 2 3;parish b 6 5;parish c 6 6;parish d 8 0;");
        for (int way = 0; way < 4; way++) {
            x.carry(1, way, way == 0 ? 2 : way);
        }
        int[] due = {6, 5, 2, 1, 2, 3, 25, 4};
        for (int what = 0; what < due.length; what++) {
            Due.is("b " + what, x.parish(1, what), due[what]);
        }
        Due.is("c touches b", x.parish(2, 7), 2);
        x.carry(1, 0, 3);
        Due.is("up to a", x.parish(1, 7), 5);
        x.carry(1, 3, 4);
        Due.is("all", x.parish(1, 7), 13);
        Due.is("d touches b", x.parish(3, 7), 2);
        Doc.promise(6, "IndexOutOfBoundsException: no such PARISH.");
        BeatenBounds two = Texts.of(TWO);
        for (int parish : Whole.noneOf(2)) {
            for (int what = 0; what <= 7; what++) {
                Due.is("parish " + parish, Whole.thrown(two, parish, what), 1);
            }
            // Without such a PARISH it isn't looked further.
            Due.is("neither", Whole.thrown(two, parish, 8), 1);
        }
        Due.is("the last one", Whole.thrown(two, 1, 0), 0);
        Due.is("of a new object", Whole.thrown(new BeatenBounds(), 0, 0), 1);
        Due.is("the fourth", Whole.thrown(x, 3, 0), 0);
        Due.is("the fifth", Whole.thrown(x, 4, 0), 1);
        Doc.promise(6, "NoSuchElementException: no such what.");
        for (int what : Whole.noneOf(8)) {
            Due.is("what " + what, Whole.thrown(two, 0, what), 2);
            Due.is("what " + what, Whole.thrown(two, 1, what), 2);
        }
        String ahead = Whole.of(two);
        Whole.thrown(two, 9, 0);
        Whole.thrown(two, 0, 9);
        Due.same("all stays", Whole.of(two), ahead);
    }

    private static void child() {
        Doc.promise(7, "Of a CHILD now, what 0 LEGS, 1 MOOD, 2 how TIRED.");
        BeatenBounds x = Texts.of(TWO + "law grow 1;");
        Due.is("legs", x.child(0, 0), 3);
        Due.is("mood", x.child(0, 1), 2);
        Due.is("tired", x.child(0, 2), 0);
        x.beat(0, 1, 0);
        Due.is("tired now", x.child(1, 2), 1);
        Due.is("not the other", x.child(0, 2), 0);
        x.go(1);
        Due.is("legs now", x.child(1, 0), 8);
        Due.is("mood as ever", x.child(1, 1), 8);
        Due.is("rested", x.child(1, 2), 0);
        Doc.promise(7, "NONE: no such ones.");
        for (int none : Whole.noneOf(2)) {
            Due.is("child " + none, x.child(none, 0), -1);
        }
        for (int none : Whole.noneOf(3)) {
            Due.is("what " + none, x.child(1, none), -1);
        }
        Due.is("of a new object", new BeatenBounds().child(0, 1), -1);
    }

    private static void cake() {
        Doc.promise(8, "SIZE of the CAKE of a PARISH and a WAY (0: none);");
        BeatenBounds x = Texts.of(TWO);
        Due.is("as told", x.cake(0, 1), 6);
        Due.is("as told", x.cake(1, 1), 4);
        Due.is("none", x.cake(1, 3), 0);
        x.bake(1, 3, 9);
        Due.is("baked", x.cake(1, 3), 9);
        x.bake(0, 1, 0);
        Due.is("none any more", x.cake(0, 1), 0);
        Doc.promise(8, "NONE: no such ones.");
        for (int none : Whole.noneOf(2)) {
            Due.is("parish " + none, x.cake(none, 1), -1);
        }
        for (int none : Whole.noneOf(4)) {
            Due.is("way " + none, x.cake(1, none), -1);
        }
    }

    private static void owners() {
        Doc.promise(9, "PARISHES (bits) of whose land a cell is;");
        BeatenBounds x = Texts.of("land 9;parish a 0 0;parish b 0 2;parish c 0 4;parish d 0 6;");
        for (int parish = 0; parish < 4; parish++) {
            Due.is("church " + parish, x.owners(0, 2 * parish), 1 << parish);
            Due.is("nobody's", x.owners(0, 2 * parish + 1), 0);
        }
        for (int parish = 0; parish < 4; parish++) {
            x.carry(parish, 1, 8 - 2 * parish);
        }
        Due.is("of all", x.owners(0, 8), 15);
        Due.is("of two", x.owners(0, 3), 3);
        Due.is("below", x.owners(1, 8), 0);
        Doc.promise(9, "NONE: no such cell.");
        for (int none : Whole.noneOf(9)) {
            Due.is("row " + none, x.owners(none, 0), -1);
            Due.is("column " + none, x.owners(0, none), -1);
        }
    }

    private static void overlap() {
        Doc.promise(10, "OVERLAP;");
        BeatenBounds x = Texts.of(TWO);
        Due.is("none", x.overlap(0, 1), 0);
        x.carry(0, 1, 2);
        x.carry(1, 1, 2);
        Due.is("two", x.overlap(0, 1), 2);
        Due.is("two", x.overlap(1, 0), 2);
        Doc.promise(10, "NONE: no such PARISHES, alike.");
        for (int none : Whole.noneOf(2)) {
            Due.is("one " + none, x.overlap(none, 0), -1);
            Due.is("other " + none, x.overlap(0, none), -1);
            Due.is("both " + none, x.overlap(none, none), -1);
        }
        Due.is("alike", x.overlap(0, 0), -1);
        Due.is("alike", x.overlap(1, 1), -1);
    }

    private static void takenAndDisputedByCall() {
        Doc.promise(11, "TAKEN.");
        Due.is("of a new object", new BeatenBounds().taken(), 0);
        BeatenBounds x = Texts.of(TWO);
        Due.is("churches", x.taken(), 2);
        x.carry(0, 1, 2);
        Due.is("with one that both have", x.taken(), 3);
        Doc.promise(12, "DISPUTED.");
        Due.is("of a new object", new BeatenBounds().disputed(), 0);
        Due.is("of one", x.disputed(), 1);
        Due.is("of none", Texts.of(TWO).disputed(), 0);
    }

    private static void law() {
        Doc.promise(13, "The law's E now (what 0 walk of a CHILD for a PARISH and a WAY;");
        BeatenBounds x = Texts.of(TWO + "law walk legs*100-sweet*10-far;law quarl 0-far*5000;law grow 0-legs*mood;");
        x.carry(1, 1, 2);
        Due.is("walk", x.law(0, 0, 0, 1), 300 - 60);
        Due.is("walk", x.law(0, 1, 1, 1), 700 - 40 - 2);
        Due.is("walk", x.law(0, 1, 1, 3), 700);
        Doc.promise(13, "1 quarl of two PARISHES, the first number, then the second one, the third isn't looked at;");
        for (int third : new int[] {Integer.MIN_VALUE, -1, 0, 3, 4, Integer.MAX_VALUE}) {
            Due.is("quarl apart", x.law(1, 0, 1, third), 0);
        }
        x.carry(0, 1, 2);
        Due.is("quarl, as it comes", x.law(1, 0, 1, 9), -10000);
        Due.is("quarl", x.law(1, 1, 0, 9), -10000);
        Doc.promise(13, "2 grow of a CHILD, the others aren't looked at).");
        for (int other : new int[] {Integer.MIN_VALUE, -1, 0, 2, Integer.MAX_VALUE}) {
            Due.is("grow, as it comes", x.law(2, 0, other, 0), -6);
            Due.is("grow", x.law(2, 1, 0, other), -56);
        }
        Doc.promise(13, "Long.MIN_VALUE: an ERROR, no such law, no such ones, alike.");
        BeatenBounds error = Texts.of(TWO + "law walk 1/far;law quarl 1/far;law grow 1/far;");
        for (int what = 0; what < 3; what++) {
            Due.is("an error of " + what, error.law(what, 0, 1, 0), ERROR);
            Due.is("no law told of " + what, Texts.of(TWO).law(what, 0, 1, 0), ERROR);
        }
        for (int none : Whole.noneOf(3)) {
            Due.is("what " + none, x.law(none, 0, 1, 0), ERROR);
        }
        for (int none : Whole.noneOf(2)) {
            Due.is("walk child " + none, x.law(0, none, 0, 0), ERROR);
            Due.is("walk parish " + none, x.law(0, 0, none, 0), ERROR);
            Due.is("quarl one " + none, x.law(1, none, 0, 0), ERROR);
            Due.is("quarl other " + none, x.law(1, 0, none, 0), ERROR);
            Due.is("quarl both " + none, x.law(1, none, none, 0), ERROR);
            Due.is("grow child " + none, x.law(2, none, 0, 0), ERROR);
        }
        for (int none : Whole.noneOf(4)) {
            Due.is("walk way " + none, x.law(0, 0, 0, none), ERROR);
        }
        Due.is("quarl alike", x.law(1, 0, 0, 0), ERROR);
        Due.is("quarl alike", x.law(1, 1, 1, 0), ERROR);
        Due.is("walk of child 1 and parish 1, alike or not", x.law(0, 1, 1, 0), 700);
    }

    private static void cut() {
        Doc.promise(22, "CUT of the OVERLAP of two, what 0: 0 between ROWS, 1 COLUMNS, "
            + "1: behind how many of them (from above, from the left), 2: by how many cells the parts differ.");
        BeatenBounds x = block(3, 4);
        int[] due = {1, 2, 0};
        int[] turned = {0, 2, 0};
        for (int what = 0; what < 3; what++) {
            Due.is("three rows, four columns: " + what, x.cut(0, 1, what), due[what]);
            Due.is("asked the other way round: " + what, x.cut(1, 0, what), due[what]);
            Due.is("four rows, three columns: " + what, block(4, 3).cut(0, 1, what), turned[what]);
        }
        Due.is("five rows, three columns", block(5, 3).cut(0, 1, 2), 3);
        Doc.promise(22, "-2: there are less than two cells;");
        for (int what = 0; what < 3; what++) {
            Due.is("none", Texts.of(TWO).cut(0, 1, what), -2);
            Due.is("apart in both", Texts.of("parish p 0 0;parish q 9 9;").cut(0, 1, what), -2);
            Due.is("one", block(1, 1).cut(0, 1, what), -2);
            Due.is("one of larger lands", crossed(9, 9).cut(0, 1, what), -2);
            Due.is("one of larger lands", crossed(9, 9).cut(1, 0, what), -2);
            Due.is("two", block(2, 1).cut(0, 1, what) >= 0, true);
        }
        Doc.promise(22, "NONE: no such ones, alike.");
        for (int none : Whole.noneOf(2)) {
            Due.is("one " + none, x.cut(none, 1, 0), -1);
            Due.is("other " + none, x.cut(0, none, 0), -1);
            Due.is("both " + none, x.cut(none, none, 0), -1);
        }
        for (int none : Whole.noneOf(3)) {
            Due.is("what " + none, x.cut(0, 1, none), -1);
            Due.is("what " + none + " of less than two cells", block(1, 1).cut(0, 1, none), -1);
        }
        Due.is("alike", x.cut(0, 0, 0), -1);
        Due.is("alike", x.cut(1, 1, 2), -1);
    }

    private static void realmsAndColoursByCall() {
        Doc.promise(23, "REALMS.");
        Due.is("of a new object", new BeatenBounds().realms(), 0);
        Due.is("one", Texts.of("parish p 0 0;").realms(), 1);
        Due.is("one of two", Texts.of(TWO).realms(), 1);
        Due.is("two", Texts.of("parish p 0 0;parish q 1 1;").realms(), 2);
        Doc.promise(24, "COLOURS (0: no PARISHES).");
        Due.is("of a new object", new BeatenBounds().colours(), 0);
        Due.is("of children alone", Texts.of("child c 1 1;").colours(), 0);
        Due.is("one", Texts.of("parish p 0 0;").colours(), 1);
        Due.is("two", Texts.of(TWO).colours(), 2);
    }

    private static void rests() {
        Doc.promise(25, "How many RESTS SING has;");
        Due.is("one", crossed(20, 20).rests(0, 1), 1);
        Due.is("two", crossed(9, 9).rests(0, 1), 2);
        Due.is("three", crossed(10, 10).rests(0, 1), 3);
        Due.is("four", Texts.of(TWO).rests(0, 1), 4);
        Doc.promise(25, "NONE: no such PARISHES, alike.");
        BeatenBounds x = Texts.of(TWO);
        for (int none : Whole.noneOf(2)) {
            Due.is("one " + none, x.rests(none, 1), -1);
            Due.is("other " + none, x.rests(0, none), -1);
            Due.is("both " + none, x.rests(none, none), -1);
        }
        Due.is("alike", x.rests(0, 0), -1);
        Due.is("alike", x.rests(1, 1), -1);
    }

    private static void rest() {
        Doc.promise(26, "The k-th: ten times the first one's and the second one's;");
        BeatenBounds x = Texts.of(TWO);
        int[] due = {0, 1, 10, 11};
        for (int k = 0; k < 4; k++) {
            Due.is("k " + k, x.rest(0, 1, k), due[k]);
        }
        Doc.promise(26, "-2: there are no so many;");
        Due.is("k 4", x.rest(0, 1, 4), -2);
        Due.is("k 5", x.rest(0, 1, 5), -2);
        Due.is("the largest k", x.rest(0, 1, Integer.MAX_VALUE), -2);
        Due.is("k 1 of one", crossed(20, 20).rest(0, 1, 1), -2);
        Doc.promise(26, "NONE likewise, k is below 0.");
        Due.is("k -1", x.rest(0, 1, -1), -1);
        Due.is("the least k", x.rest(0, 1, Integer.MIN_VALUE), -1);
        for (int none : Whole.noneOf(2)) {
            Due.is("one " + none, x.rest(none, 1, 0), -1);
            Due.is("other " + none, x.rest(0, none, 0), -1);
            Due.is("other " + none + ", k beyond", x.rest(0, none, 9), -1);
        }
        Due.is("alike", x.rest(0, 0, 0), -1);
        Due.is("alike, k beyond", x.rest(1, 1, 9), -1);
    }

    private static void dry() {
        Doc.promise(27, "DRY (n 0 .. 6) in least terms, what 0: the number above, 1: the one below.");
        for (int rain = 0; rain <= 100; rain++) {
            BeatenBounds x = Texts.of("rain " + rain + ";");
            for (int n = 0; n <= 6; n++) {
                long above = 1;
                long below = 1;
                for (int k = 0; k < n; k++) {
                    above *= 100 - rain;
                    below *= 100;
                }
                long common = common(above, below);
                Due.is("above, rain " + rain + ", n " + n, x.dry(n, 0), above / common);
                Due.is("below, rain " + rain + ", n " + n, x.dry(n, 1), below / common);
            }
        }
        Doc.promise(27, "NONE: no such ones.");
        BeatenBounds x = Texts.of("rain 10;");
        for (int none : Whole.noneOf(7)) {
            Due.is("n " + none, x.dry(none, 0), -1);
        }
        for (int none : Whole.noneOf(2)) {
            Due.is("what " + none, x.dry(1, none), -1);
        }
    }

    private static long common(long a, long b) {
        return b == 0 ? a : common(b, a % b);
    }
}
