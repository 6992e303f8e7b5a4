/** The edges of what was seen, struck, known, of legs by it, of what tells most, and of promises 28 to 32 and 38. */
final class EdgesOfSeen {
    private static final int ALL = (1 << 30) - 1;
    // c leads p right in YEAR 0, d does in YEAR 4; d leads q down in YEAR 19, c does in YEAR 20.
    private static final String TEXT = "land 40;parish p 20 0;parish q 0 0;child c 4 0;child d 2 0;beat p c 1 0;"
        + "beat p d 1 4;beat q d 2 19;beat q c 2 20;";

    private EdgesOfSeen() {
    }

    static void run() {
        seen();
        struck();
        known();
        legs();
        asked();
        see();
        strike();
        knownByCall();
        legsOf();
        ask();
        count();
        callsInAll();
    }

    /** The bits of least .. most legs. */
    private static int bits(int least, int most) {
        int bits = 0;
        for (int legs = least; legs <= most; legs++) {
            bits |= 1 << legs - 1;
        }
        return bits;
    }

    private static void seen() {
        Doc.terms("SEEN, at most 24, numbered from 0 on: behind so many YEARS 1 .. 60 "
            + "(as it goes from the TEXT on, nothing done by call) a cell was of the land of a PARISH, or wasn't.");
        BeatenBounds x = Texts.of(TEXT);
        for (int k = 0; k < 24; k++) {
            Due.is("see", x.see(1 + k, 0, 20, 0, true), k);
        }
        Due.is("all of them are so", x.legsOf(0), ALL);
        Due.is("a 25th", x.see(1, 0, 20, 0, true), -1);
        BeatenBounds one = Texts.of(TEXT);
        for (int k = 0; k < 23; k++) {
            one.see(60 - k, 0, 20, 0, true);
        }
        one.see(1, 0, 20, 9, true);
        Due.is("the earliest told last", one.legsOf(0), bits(9, 30));
        BeatenBounds other = Texts.of("land 40;parish p 20 0;child c 4 0;beat p c 1 59;");
        for (int k = 0; k < 23; k++) {
            other.see(1 + k, 0, 20, 0, true);
        }
        other.see(60, 0, 20, 9, true);
        Due.is("the latest of 24 years", other.legsOf(0), bits(9, 30));
        Due.is("24", x.count(10), 24);
        BeatenBounds years = Texts.of(TEXT);
        Due.is("behind 0", years.see(0, 0, 20, 0, true), -1);
        Due.is("behind 61", years.see(61, 0, 20, 0, true), -1);
        Due.is("behind 1", years.see(1, 0, 20, 9, true), 0);
        Due.is("9 cells at least behind YEAR 0", years.legsOf(0), bits(9, 30));
        BeatenBounds last = Texts.of("land 40;parish p 20 0;child c 4 0;beat p c 1 59;beat p c 2 60;");
        Due.is("behind 60", last.see(60, 0, 20, 9, true), 0);
        Due.is("YEAR 59 is behind", last.legsOf(0), bits(9, 30));
        Due.is("and YEAR 60 isn't", last.see(60, 0, 21, 0, true), 1);
        Due.is("nobody was led down", last.legsOf(0), 0);
        // By call nothing of it changes, nor do years that went by.
        BeatenBounds done = Texts.of("land 40;parish p 20 0;child c 4 0;cake p 1 2;beat p c 1 0;beat p c 1 3;law grow 1;");
        done.bake(0, 1, 9);
        done.carry(0, 2, 9);
        done.beat(0, 0, 1);
        done.go(2);
        done.beat(0, 0, 0);
        done.see(1, 0, 20, 9, true);
        Due.is("legs 7 and the cake of 2", done.legsOf(0), bits(7, 30));
        done.see(1, 0, 20, 10, false);
        Due.is("no more than it", done.legsOf(0), bits(7, 7));
        done.see(4, 0, 20, 12, true);
        Due.is("by 3 years grown", done.legsOf(0), bits(7, 7));
        done.see(4, 0, 20, 13, true);
        Due.is("not by 4", done.legsOf(0), 0);
        for (int rain : new int[] {49, 50}) {
            BeatenBounds wet = Texts.of("land 40;parish p 20 0;child c 4 0;beat p c 1 0;seed 77;rain " + rain + ";");
            wet.see(1, 0, 20, 3, true);
            wet.see(1, 0, 20, 4, false);
            Due.is("as it goes, rain " + rain, wet.legsOf(0), rain < 50 ? bits(3, 3) : bits(6, 7));
        }
    }

    private static void struck() {
        Doc.terms("One may strike one ahead of it (STRUCK).");
        BeatenBounds x = Texts.of(TEXT);
        Due.is("none ahead", x.strike(0), -1);
        x.see(1, 0, 20, 9, true);
        Due.is("not itself", x.strike(1), -1);
        Due.is("one ahead", x.strike(0), 1);
        Due.is("struck", x.legsOf(0), ALL);
        x.see(1, 0, 20, 5, true);
        Due.is("the first one still", x.strike(0), 3);
        Due.is("the other one counts", x.legsOf(0), bits(5, 30));
    }

    private static void known() {
        Doc.terms("KNOWN by n (all at first): the first n that aren't STRUCK by one of these "
            + "(what strikes may be STRUCK: then it doesn't count; asked from the last one on).");
        BeatenBounds x = Texts.of(TEXT);
        x.see(1, 0, 20, 9, true);
        Due.is("all at first", x.legsOf(0), bits(9, 30));
        x.strike(0);
        x.strike(1);
        x.strike(2);
        x.see(1, 0, 20, 12, false);
        x.strike(4);
        // Of n: 0 seen 1 strikes it 2 strikes 1 3 strikes 2 4 seen 5 strikes 4
        int[] due = {ALL, bits(9, 30), ALL, bits(9, 30), ALL, bits(1, 11), ALL};
        for (int n = 0; n < due.length; n++) {
            x.known(n);
            Due.is("by the first " + n, x.legsOf(0), due[n]);
        }
        x.known(-1);
        Due.is("by all", x.legsOf(0), ALL);
        // Struck twice, by one that is struck and one that isn't.
        BeatenBounds twice = Texts.of(TEXT);
        twice.see(1, 0, 20, 9, true);
        twice.strike(0);
        twice.strike(0);
        twice.strike(2);
        Due.is("by the other one", twice.legsOf(0), ALL);
        twice.strike(1);
        Due.is("by neither", twice.legsOf(0), bits(9, 30));
        // From the last one on: 3 strikes 2, so 2 doesn't strike 1, and 1 strikes 0.
        BeatenBounds chain = Texts.of(TEXT);
        chain.see(1, 0, 20, 9, true);
        for (int k = 0; k < 23; k++) {
            chain.strike(k);
            Due.is("a chain of " + (k + 1), chain.legsOf(0), k % 2 == 0 ? ALL : bits(9, 30));
        }
    }

    private static void legs() {
        Doc.terms("LEGS OF a CHILD: 1 .. 30 (bits 0 .. 29) that LEGS may be at first, in place of what was told, "
            + "by which all KNOWN ones are so.");
        BeatenBounds x = Texts.of(TEXT);
        Due.is("nothing seen: all", x.legsOf(0), 1073741823);
        x.see(1, 0, 20, 30, true);
        Due.is("30 is bit 29", x.legsOf(0), 536870912);
        x.strike(0);
        x.see(1, 0, 20, 2, false);
        Due.is("1 is bit 0", x.legsOf(0), 1);
        x.strike(2);
        x.see(1, 0, 20, 31, true);
        Due.is("31 is none", x.legsOf(0), 0);
        x.strike(4);
        x.see(1, 0, 20, 1, false);
        Due.is("0 is none", x.legsOf(0), 0);
        x.strike(6);
        // In YEAR 4 it's d's stone: of c all, of d as many; the other one has the LEGS that are told.
        x.see(5, 0, 20, 2, true);
        x.see(5, 0, 20, 3, false);
        Due.is("told of d: 2", x.legsOf(0), ALL);
        Due.is("of d", x.legsOf(1), bits(2, 2));
        x.see(1, 0, 20, 4, true);
        Due.is("told of c: 4", x.legsOf(1), bits(2, 2));
        Due.is("of c", x.legsOf(0), bits(4, 30));
        x.see(1, 0, 20, 5, true);
        Due.is("c is told otherwise: none of d", x.legsOf(1), 0);
        Due.is("legs as they are", x.child(0, 0), 4);
    }

    private static void asked() {
        Doc.terms("ASK of a CHILD and a PARISH: the cell of which, if one asks whether it is of its land behind 20 YEARS "
            + "as it goes from the TEXT on, as few of LEGS OF the CHILD as may be are left at worst,");
        BeatenBounds late = Texts.of(TEXT);
        // Behind 20 YEARS q is d's of YEAR 19, not c's of YEAR 20.
        Due.is("d of q: halved at 16", late.ask(1, 1, 0), 1600);
        Due.is("15 and 15", late.ask(1, 1, 1), 15);
        Due.is("c of q: nothing is told", late.ask(0, 1, 1), 30);
        Due.is("d of p", late.ask(1, 0, 0), 2016);
        Due.is("c of p: d was led later", late.ask(0, 0, 1), 30);
        late.go(30);
        late.carry(1, 2, 9);
        Due.is("from the text on", late.ask(1, 1, 0), 1600);
        late.see(20, 1, 10, 0, false);
        // 9 are left, 1 .. 9: at 5 they are 4 and 5, at 6 they are 5 and 4.
        Due.is("of those that are left", late.ask(1, 1, 0), 500);
        Due.is("5 at worst", late.ask(1, 1, 1), 5);
        late.see(20, 1, 8, 0, true);
        Due.is("8, 9: 9 tells", late.ask(1, 1, 0), 900);
        Due.is("1 at worst", late.ask(1, 1, 1), 1);
        late.see(20, 1, 9, 0, true);
        Due.is("9: each cell leaves it", late.ask(1, 1, 1), 1);
        late.see(20, 1, 9, 0, false);
        Due.is("none are left", late.ask(1, 1, 1), 0);
        BeatenBounds first = Texts.of("land 40;parish p 0 0;child c 4 0;beat p c 1 0;");
        Due.is("in row 0", first.ask(0, 0, 0), 16);
        Due.is("15 and 15", first.ask(0, 0, 1), 15);
        BeatenBounds left = Texts.of("land 40;parish p 0 0;child c 4 0;beat p c 2 0;");
        Due.is("in column 0", left.ask(0, 0, 0), 1600);
        BeatenBounds end = Texts.of("land 40;parish p 39 39;child c 4 0;beat p c 3 0;");
        Due.is("in row 39", end.ask(0, 0, 0), 3923);
        BeatenBounds right = Texts.of("land 40;parish p 39 39;child c 4 0;beat p c 0 0;");
        Due.is("in column 39", right.ask(0, 0, 0), 2339);
        BeatenBounds small = Texts.of("land 5;parish p 0 0;child c 4 0;beat p c 1 0;");
        // Legs 4 .. 30 all reach the edge: 1, 2, 3 are the others.
        Due.is("the edge", small.ask(0, 0, 0), 4);
        Due.is("27 at worst", small.ask(0, 0, 1), 27);
        Doc.terms("the first of several by ROWS, then COLUMNS.");
        Due.is("of all cells", late.ask(1, 1, 0), 0);
        Due.is("nothing is told: of all cells", late.ask(0, 1, 0), 0);
        // Down and right of it: rows ahead of columns.
        BeatenBounds both = Texts.of("land 40;parish p 2 3;child c 4 0;beat p c 2 0;beat p c 1 1;law walk legs;");
        Due.is("right of it in its own row", both.ask(0, 0, 0), 219);
        BeatenBounds up = Texts.of("land 40;parish p 35 3;child c 4 0;beat p c 0 0;beat p c 1 1;law walk legs;");
        // Legs 16 .. 30 reach row 19, in columns 3 .. 3 and legs more: the first cell of it is the church's column.
        Due.is("above it in its own column", up.ask(0, 0, 0), 1903);
        BeatenBounds wide = Texts.of("land 40;parish p 35 20;child c 4 0;beat p c 0 0;beat p c 3 1;law walk legs;");
        // Row 19 again, then as far left as all of these reach: 16 cells.
        Due.is("above it, as far left as may be", wide.ask(0, 0, 0), 1904);
    }

    private static void see() {
        Doc.promise(28, "SEEN: its number;");
        BeatenBounds x = Texts.of(TEXT);
        Due.is("0", x.see(1, 0, 0, 0, false), 0);
        x.strike(0);
        Due.is("what strikes is numbered, too", x.see(60, 1, 39, 39, true), 2);
        Due.is("the same once more", x.see(60, 1, 39, 39, true), 3);
        Doc.promise(28, "NONE: no such ones, or there are 24.");
        for (int none : Whole.outside(1, 60)) {
            Due.is("years " + none, x.see(none, 0, 0, 0, true), -1);
        }
        for (int none : Whole.noneOf(2)) {
            Due.is("parish " + none, x.see(1, none, 0, 0, true), -1);
        }
        for (int none : Whole.noneOf(40)) {
            Due.is("row " + none, x.see(1, 0, none, 0, true), -1);
            Due.is("column " + none, x.see(1, 0, 0, none, false), -1);
        }
        Due.is("none came", x.count(10), 4);
        for (int k = 4; k < 23; k++) {
            x.see(1, 0, 20, 0, true);
        }
        Due.is("the 24th", x.see(1, 0, 20, 0, true), 23);
        Due.is("there are 24", x.see(1, 0, 20, 0, true), -1);
        Due.is("there are 24", x.see(1, 0, 20, 0, false), -1);
        Due.is("24 still", x.count(10), 24);
        Due.is("of a new object", new BeatenBounds().see(1, 0, 0, 0, true), -1);
        BeatenBounds smaller = Texts.of("land 5;parish p 4 4;");
        Due.is("the last cell", smaller.see(1, 0, 4, 4, true), 0);
        Due.is("a row more", smaller.see(1, 0, 5, 4, true), -1);
        Due.is("a column more", smaller.see(1, 0, 4, 5, true), -1);
    }

    private static void strike() {
        Doc.promise(29, "One that strikes one SEEN: its number;");
        BeatenBounds x = Texts.of(TEXT);
        x.see(1, 0, 20, 9, true);
        Due.is("1", x.strike(0), 1);
        Due.is("once more", x.strike(0), 2);
        Due.is("what strikes", x.strike(1), 3);
        Due.is("counted as seen", x.count(10), 4);
        Doc.promise(29, "NONE: no such one, or there are 24.");
        for (int none : Whole.noneOf(4)) {
            Due.is("strike " + none, x.strike(none), -1);
        }
        Due.is("none came", x.count(10), 4);
        for (int k = 4; k < 23; k++) {
            x.strike(0);
        }
        Due.is("the 24th", x.strike(22), 23);
        Due.is("there are 24", x.strike(0), -1);
        Due.is("there are 24", x.strike(23), -1);
        Due.is("24 still", x.count(10), 24);
        Due.is("of a new object", new BeatenBounds().strike(0), -1);
    }

    private static void knownByCall() {
        Doc.promise(30, "KNOWN by n from now on (-1: by all, also those to come): true;");
        BeatenBounds x = Texts.of(TEXT);
        x.see(1, 0, 20, 9, true);
        x.see(1, 0, 20, 12, false);
        Due.is("0", x.known(0), true);
        Due.is("by none", x.legsOf(0), ALL);
        Due.is("1", x.known(1), true);
        Due.is("by one", x.legsOf(0), bits(9, 30));
        Due.is("2", x.known(2), true);
        Due.is("by both", x.legsOf(0), bits(9, 11));
        x.see(1, 0, 20, 10, true);
        Due.is("by those two still", x.legsOf(0), bits(9, 11));
        Due.is("ask, too", x.ask(0, 0, 1), 3);
        Due.is("-1", x.known(-1), true);
        Due.is("by all", x.legsOf(0), bits(10, 11));
        x.see(1, 0, 20, 11, true);
        Due.is("also those to come", x.legsOf(0), bits(11, 11));
        Due.is("it is so already", x.known(-1), true);
        Doc.promise(30, "false: no such n.");
        x.known(1);
        for (int none : new int[] {Integer.MIN_VALUE, -100, -2, 5, 6, 24, 25, Integer.MAX_VALUE}) {
            Due.is("known " + none, x.known(none), false);
            Due.is("it stays so", x.count(11), 1);
        }
        Due.is("as many as there are", x.known(4), true);
        Due.is("1 of none", Texts.of(TEXT).known(1), false);
        Due.is("0 of none", Texts.of(TEXT).known(0), true);
        for (int k = 4; k < 24; k++) {
            x.strike(k - 1);
        }
        Due.is("24", x.known(24), true);
        Due.is("25", x.known(25), false);
    }

    private static void legsOf() {
        Doc.promise(31, "LEGS OF (bits);");
        BeatenBounds x = Texts.of(TEXT);
        x.see(1, 0, 20, 9, true);
        x.see(1, 0, 20, 12, false);
        String ahead = Whole.of(x);
        Due.is("9, 10, 11", x.legsOf(0), 256 + 512 + 1024);
        Due.is("none of d", x.legsOf(1), 0);
        Due.is("once more", x.legsOf(0), 256 + 512 + 1024);
        Due.same("nothing changes", Whole.of(x), ahead);
        Doc.promise(31, "NONE: no such CHILD.");
        for (int none : Whole.noneOf(2)) {
            Due.is("child " + none, x.legsOf(none), -1);
        }
        Due.is("of a new object", new BeatenBounds().legsOf(0), -1);
        BeatenBounds six = Texts.of("child a 1 0;child b 1 0;child c 1 0;child d 1 0;child e 1 0;child f 1 0;");
        Due.is("the last one", six.legsOf(5), ALL);
    }

    private static void ask() {
        Doc.promise(32, "ASK, what 0: a hundred times the ROW and the COLUMN, 1: how many are left at worst.");
        BeatenBounds x = Texts.of("land 40;parish p 39 9;child c 4 0;beat p c 1 0;");
        String ahead = Whole.of(x);
        Due.is("the cell", x.ask(0, 0, 0), 3925);
        Due.is("left", x.ask(0, 0, 1), 15);
        Due.same("nothing changes", Whole.of(x), ahead);
        Doc.promise(32, "NONE: no such ones.");
        BeatenBounds two = Texts.of(TEXT);
        for (int none : Whole.noneOf(2)) {
            Due.is("child " + none, two.ask(none, 0, 0), -1);
            Due.is("parish " + none, two.ask(0, none, 1), -1);
            Due.is("what " + none, two.ask(0, 0, none), -1);
        }
        Due.is("of a new object", new BeatenBounds().ask(0, 0, 0), -1);
        Due.is("without children", Texts.of("parish p 1 1;").ask(0, 0, 0), -1);
        Due.is("without parishes", Texts.of("child c 1 1;").ask(0, 0, 0), -1);
    }

    private static void count() {
        Doc.promise(38, "0 PARISHES, 1 CHILDREN, 2 BEATINGS told, 3 SIZE of the land, 4 KNOTS, 5 the YEAR, 6 QUARREL, "
            + "7 AREAS of all in sum, 8 OVERLAPS of all pairs in sum, 9 LEGS of all in sum, 10 SEEN, "
            + "11 by how many it is KNOWN, 12 what can be undone.");
        BeatenBounds x = Texts.of("land 30;parish a 0 0;parish b 0 1;parish c 0 9;child d 3 3;child e 4 4;"
            + "beat a d 1 0;beat b e 2 9;beat a e 3 9;cake a 1 1;law walk 3;law grow year-2+2;");
        int[] due = {3, 2, 3, 30, 6, 0, 0, 3, 0, 7, 0, 0, 0};
        for (int what = 0; what < due.length; what++) {
            Due.is("at first " + what, x.count(what), due[what]);
        }
        x.go(3);
        x.see(1, 0, 0, 0, true);
        x.see(1, 0, 0, 0, true);
        x.strike(0);
        x.beat(2, 1, 3);
        x.carry(1, 1, 6);
        // a: columns 0 .. 3, b: 1 .. 7, c: 6 .. 9 of row 0; a quarrelled with b for one cell in three years.
        int[] then = {3, 2, 3, 30, 6, 3, 3, 4 + 7 + 4, 3 + 2, 13, 3, 3, 2};
        for (int what = 0; what < then.length; what++) {
            Due.is("then " + what, x.count(what), then[what]);
        }
        for (int n = 0; n <= 3; n++) {
            x.known(n);
            Due.is("known by " + n, x.count(11), n);
        }
        x.known(2);
        x.see(1, 0, 0, 0, true);
        Due.is("seen", x.count(10), 4);
        Due.is("known by two still", x.count(11), 2);
        x.known(-1);
        Due.is("known by all", x.count(11), 4);
        BeatenBounds most = Texts.of("land 40;parish a 0 0;parish b 0 39;parish c 39 0;parish d 39 39;");
        for (int parish = 0; parish < 4; parish++) {
            for (int way = 0; way < 4; way++) {
                most.carry(parish, way, 39);
            }
        }
        Texts.tell(x, "child a 1 0;child b 2 0;child c 3 0;child d 4 0;child e 5 0;child f 6 0;");
        Due.is("legs of six", x.count(9), 21);
        Texts.tell(x, "child a 7 0;child b 8 0;");
        Due.is("legs of two behind a text of six", x.count(9), 15);
        Due.is("areas", most.count(7), 4 * 1600);
        Due.is("overlaps of six pairs", most.count(8), 6 * 1600);
        Doc.promise(38, "NONE for another what.");
        for (int none : Whole.noneOf(13)) {
            Due.is("what " + none, x.count(none), -1);
        }
    }

    private static void callsInAll() {
        Doc.about("An object is used for at most 512 calls after it has been made;");
        BeatenBounds x = new BeatenBounds();
        for (int k = 1; k < 512; k++) {
            x.feed(k, k, k, k, k);
        }
        Due.is("the 512th", x.text(700), -1);
        BeatenBounds led = new BeatenBounds();
        Texts.tell(led, "parish p 0 0;child c 9 0;");
        for (int k = 3; k < 511; k++) {
            led.beat(0, 0, 1);
        }
        Due.is("the 512th", led.undo(), 19);
    }
}
