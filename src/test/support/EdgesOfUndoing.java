/** The edges of what is undone and kept, and of promises 35 to 37. */
final class EdgesOfUndoing {
    private static final String TWO = "land 40;parish p 20 20;parish q 3 3;child c 5 0;child d 9 0;cake p 1 2;";

    private EdgesOfUndoing() {
    }

    static void run() {
        undoing();
        mostUndone();
        undoneInTheYear();
        images();
        undo();
        keep();
        back();
    }

    private static void undoing() {
        Doc.terms("Beatings, cakes, stones by call can be undone, the latest first");
        BeatenBounds x = Texts.of(TWO);
        String[] ahead = new String[6];
        ahead[0] = Whole.ofLand(x);
        x.beat(0, 0, 1);
        ahead[1] = Whole.ofLand(x);
        x.bake(0, 1, 9);
        ahead[2] = Whole.ofLand(x);
        x.carry(1, 2, 7);
        ahead[3] = Whole.ofLand(x);
        x.beat(0, 0, 1);
        ahead[4] = Whole.ofLand(x);
        x.bake(0, 1, 0);
        ahead[5] = Whole.ofLand(x);
        x.beat(1, 1, 2);
        for (int left = 5; left >= 0; left--) {
            Due.is("undo", x.undo(), left);
            Due.same("as ahead of it", Whole.ofLand(x), ahead[left]);
        }
        Due.is("none", x.undo(), -1);
    }

    private static void mostUndone() {
        Doc.terms("(20 at most),");
        BeatenBounds x = Texts.of(TWO);
        for (int k = 0; k < 20; k++) {
            x.carry(0, 0, k + 1);
        }
        Due.is("20", x.count(12), 20);
        x.beat(0, 1, 3);
        Due.is("20 at most", x.count(12), 20);
        x.bake(1, 1, 1);
        Due.is("20 at most", x.count(12), 20);
        for (int left = 19; left >= 0; left--) {
            Due.is("undo", x.undo(), left);
        }
        Due.is("no more", x.undo(), -1);
        Due.is("the first two stay", x.parish(0, 2), 2);
        Due.is("the latest ones don't", x.child(1, 2), 0);
        Due.is("the latest ones don't", x.cake(1, 1), 0);
        // Round and round: of 100 the latest 20, then as many again.
        for (int round = 0; round < 2; round++) {
            for (int k = 1; k <= 100; k++) {
                x.carry(1, 1, k % 2 == 0 ? k % 36 : 36);
            }
            Due.is("20 of 100", x.count(12), 20);
            for (int left = 19; left >= 0; left--) {
                Due.is("undo", x.undo(), left);
                int k = 80 + left;
                Due.is("as ahead of it", x.parish(1, 3), k % 2 == 0 ? k % 36 : 36);
            }
            Due.is("no more", x.undo(), -1);
        }
    }

    private static void undoneInTheYear() {
        Doc.terms("if no YEAR went by since.");
        BeatenBounds x = Texts.of(TWO);
        x.carry(0, 0, 9);
        x.go(0);
        Due.is("no year went by", x.count(12), 1);
        x.go(201);
        Due.is("nor with a number that is none", x.count(12), 1);
        x.go(1);
        Due.is("a year went by", x.undo(), -1);
        Due.is("it stays", x.parish(0, 2), 9);
        x.carry(0, 0, 8);
        Due.is("since then", x.undo(), 0);
        Due.is("no further", x.undo(), -1);
        Due.is("as behind the year", x.parish(0, 2), 9);
        // What is refused, and what is only asked, is nothing to undo.
        x.carry(0, 0, 9);
        x.carry(0, 0, 99);
        x.bake(0, 0, 0);
        x.beat(0, 9, 0);
        x.laid(0, 0);
        x.ahead(3, 0, 0);
        x.see(1, 0, 0, 0, true);
        x.keep();
        Due.is("none of these", x.count(12), 0);
    }

    private static void images() {
        Doc.terms("An IMAGE keeps all but what was SEEN.");
        BeatenBounds x = Texts.of("land 20;parish p 10 0;parish q 10 4;child c 6 0;cake p 1 2;rain 50;seed 77;law grow wet;"
            + "beat p c 1 0;beat p c 1 1;beat p c 1 2;beat p c 1 3;beat p c 1 4;beat p c 1 5;");
        x.go(2);
        x.beat(1, 0, 0);
        x.bake(1, 2, 3);
        String kept = Whole.ofLand(x);
        x.see(1, 0, 10, 0, true);
        x.keep();
        // Numbers 69 49 49 come, and would 89 87 9 behind these: dry wet wet, not dry dry wet.
        String[] then = new String[3];
        for (int k = 0; k < 3; k++) {
            x.go(1);
            then[k] = Whole.ofLand(x);
        }
        x.bake(1, 2, 0);
        x.bake(0, 1, 9);
        x.carry(1, 1, 5);
        x.see(1, 0, 10, 9, false);
        x.strike(0);
        Due.is("back", x.back(), 2);
        Due.same("all", Whole.ofLand(x), kept);
        Due.is("not what was seen", x.count(10), 3);
        for (int k = 0; k < 3; k++) {
            x.go(1);
            Due.same("the same numbers come", Whole.ofLand(x), then[k]);
        }
    }

    private static void undo() {
        Doc.promise(35, "The latest is undone: how many are left;");
        BeatenBounds x = Texts.of("land 9;parish p 4 4;child c 3 0;");
        x.carry(0, 0, 1);
        x.beat(0, 0, 0);
        x.bake(0, 0, 9);
        Due.is("the cake", x.undo(), 2);
        Due.is("none", x.cake(0, 0), 0);
        Due.is("the beating", x.undo(), 1);
        Due.is("not tired", x.child(0, 2), 0);
        Due.is("where the stone was", x.parish(0, 2), 1);
        x.bake(0, 3, 2);
        Due.is("one more is the latest", x.undo(), 1);
        Due.is("the stone", x.undo(), 0);
        Due.is("at the church", x.parish(0, 2), 0);
        // Led when as tired as one may be: undone it's 99 still.
        for (int k = 0; k < 101; k++) {
            x.beat(0, 0, 1);
        }
        x.undo();
        Due.is("99 still", x.child(0, 2), 99);
        x.undo();
        Due.is("99 still", x.child(0, 2), 99);
        x.undo();
        Due.is("then 98", x.child(0, 2), 98);
        Doc.promise(35, "NONE: none.");
        Due.is("of a new object", new BeatenBounds().undo(), -1);
        BeatenBounds none = Texts.of("land 9;parish p 4 4;child c 3 0;");
        Due.is("behind a text", none.undo(), -1);
        none.carry(0, 0, 1);
        none.undo();
        String ahead = Whole.of(none);
        Due.is("all are undone", none.undo(), -1);
        Due.same("all stays", Whole.of(none), ahead);
        none.carry(0, 0, 1);
        none.go(1);
        Due.is("behind a year", none.undo(), -1);
    }

    private static void keep() {
        Doc.promise(36, "An IMAGE is kept (in place of one ahead): which YEAR it is.");
        BeatenBounds x = Texts.of("land 9;parish p 4 4;child c 3 0;law grow 1;");
        Due.is("year 0", x.keep(), 0);
        x.go(3);
        x.carry(0, 0, 2);
        Due.is("year 3", x.keep(), 3);
        Due.is("all stays", x.count(12), 1);
        x.carry(0, 0, 1);
        x.go(1);
        Due.is("in place of it", x.back(), 3);
        Due.is("as then", x.parish(0, 2), 2);
        Due.is("as then", x.child(0, 0), 6);
        Due.is("of a new object", new BeatenBounds().keep(), 0);
        // What is done behind it doesn't touch it.
        x.keep();
        x.bake(0, 0, 5);
        x.beat(0, 0, 1);
        x.undo();
        x.back();
        Due.is("no cake", x.cake(0, 0), 0);
    }

    private static void back() {
        Doc.promise(37, "All (but what was SEEN) is as in the IMAGE (nothing to undo then): which YEAR it is;");
        BeatenBounds x = Texts.of("land 9;parish p 4 4;parish q 4 6;child c 3 0;beat p c 1 0;law grow 1;cake p 0 3;");
        x.go(2);
        x.beat(0, 0, 2);
        String kept = Whole.ofLand(x);
        x.keep();
        x.see(1, 0, 0, 0, true);
        x.go(5);
        x.carry(1, 1, 2);
        x.bake(0, 0, 0);
        Due.is("back", x.back(), 2);
        Due.same("all", Whole.ofLand(x), kept);
        Due.is("nothing to undo", x.count(12), 0);
        Due.is("nothing to undo", x.undo(), -1);
        Due.is("what was seen stays", x.count(10), 1);
        x.go(1);
        Due.is("once more", x.back(), 2);
        Due.same("all", Whole.ofLand(x), kept);
        x.carry(1, 1, 2);
        Due.is("undone as ever", x.undo(), 0);
        Due.is("back in the same year", x.back(), 2);
        Due.is("what is told stays", x.count(2), 1);
        Doc.promise(37, "NONE: there is none.");
        Due.is("of a new object", new BeatenBounds().back(), -1);
        BeatenBounds none = Texts.of("land 9;parish p 4 4;");
        none.carry(0, 0, 1);
        String ahead = Whole.of(none);
        Due.is("behind a text", none.back(), -1);
        Due.same("all stays, what can be undone, too", Whole.of(none), ahead);
        none.keep();
        Texts.tell(none, "land 9;parish p 4 4;");
        Due.is("a text takes it", none.back(), -1);
    }
}
