/** Promises 28 to 32 and 38: what was seen, struck, known; legs by it; what tells most; counts. */
public final class SeenTest {
    private static final int ALL = (1 << 30) - 1;
    private static final String TEXT = "land 40;parish p 20 0;parish q 0 0;child c 4 0;child d 2 0;beat p c 1 0;"
        + "beat p d 1 4;beat q d 2 19;beat q c 2 20;";

    public static void main(String[] args) {
        seeing();
        striking();
        knowing();
        legs();
        asking();
        counts();
        Due.end();
    }

    private static void seeing() {
        BeatenBounds x = Texts.of(TEXT);
        Due.is("years 0", x.see(0, 0, 0, 0, true), -1);
        Due.is("years 61", x.see(61, 0, 0, 0, true), -1);
        Due.is("parish 2", x.see(1, 2, 0, 0, true), -1);
        Due.is("parish -1", x.see(1, -1, 0, 0, true), -1);
        Due.is("row 40", x.see(1, 0, 40, 0, true), -1);
        Due.is("column -1", x.see(1, 0, 0, -1, true), -1);
        Due.is("none came", x.count(10), 0);
        Due.is("years 60", x.see(60, 1, 39, 39, false), 0);
        Due.is("years 1", x.see(1, 0, 0, 0, false), 1);
        for (int k = 2; k < 24; k++) {
            Due.is("see " + k, x.see(1, 0, 20, 0, true), k);
        }
        Due.is("there are 24", x.see(1, 0, 20, 0, true), -1);
        Due.is("there are 24", x.strike(0), -1);
        Due.is("count", x.count(10), 24);
        Due.is("legs", x.legsOf(0), ALL);
        Texts.tell(x, TEXT);
        Due.is("a text forgets them", x.count(10), 0);
        Due.is("see", x.see(1, 0, 20, 0, true), 0);
    }

    private static void striking() {
        BeatenBounds x = Texts.of(TEXT);
        Due.is("none to strike", x.strike(0), -1);
        x.see(1, 0, 20, 9, true);
        Due.is("not so many", x.strike(1), -1);
        Due.is("-1", x.strike(-1), -1);
        // Legs 9 at least.
        Due.is("seen", x.legsOf(0), ALL - 255);
        Due.is("strike", x.strike(0), 1);
        Due.is("struck", x.legsOf(0), ALL);
        Due.is("strike what strikes", x.strike(1), 2);
        Due.is("it counts again", x.legsOf(0), ALL - 255);
        Due.is("strike that", x.strike(2), 3);
        Due.is("struck once more", x.legsOf(0), ALL);
        Due.is("strike it twice", x.strike(0), 4);
        Due.is("strike one of both", x.strike(4), 5);
        Due.is("still struck", x.legsOf(0), ALL);
        x.known(3);
        Due.is("by the first three", x.legsOf(0), ALL - 255);
        x.known(2);
        Due.is("by the first two", x.legsOf(0), ALL);
        x.known(1);
        Due.is("by the first one", x.legsOf(0), ALL - 255);
    }

    private static void knowing() {
        BeatenBounds x = Texts.of(TEXT);
        Due.is("known 0 of none", x.known(0), true);
        Due.is("known 1 of none", x.known(1), false);
        Due.is("known -2", x.known(-2), false);
        x.see(1, 0, 20, 9, true);
        Due.is("by none still", x.legsOf(0), ALL);
        Due.is("count 11", x.count(11), 0);
        Due.is("known 2 of 1", x.known(2), false);
        Due.is("it stays", x.count(11), 0);
        Due.is("known 1", x.known(1), true);
        Due.is("by it", x.legsOf(0), ALL - 255);
        x.see(1, 0, 20, 9, false);
        Due.is("not those to come", x.legsOf(0), ALL - 255);
        Due.is("count 11", x.count(11), 1);
        Due.is("known -1", x.known(-1), true);
        Due.is("by all: none fits", x.legsOf(0), 0);
        Due.is("count 11", x.count(11), 2);
        x.strike(1);
        Due.is("also those to come", x.legsOf(0), ALL - 255);
        Due.is("count 11", x.count(11), 3);
        x.known(0);
        Texts.tell(x, TEXT);
        x.see(1, 0, 20, 9, true);
        Due.is("a text: all are known", x.legsOf(0), ALL - 255);
    }

    private static void legs() {
        BeatenBounds x = Texts.of(TEXT);
        Due.is("nothing seen", x.legsOf(0), ALL);
        Due.is("child 2", x.legsOf(2), -1);
        Due.is("child -1", x.legsOf(-1), -1);
        // By call nothing changes what is seen from the text on.
        x.carry(0, 1, 39);
        x.bake(0, 1, 9);
        x.go(3);
        x.see(1, 0, 20, 30, true);
        Due.is("30 legs", x.legsOf(0), 1 << 29);
        Due.is("d was not led yet: c's 4 don't do", x.legsOf(1), 0);
        x.strike(0);
        x.see(1, 0, 20, 1, false);
        Due.is("not even 1", x.legsOf(0), 0);
        x.strike(2);
        x.see(5, 0, 20, 3, false);
        Due.is("behind 5 years c's stone is carried by d", x.legsOf(0), ALL);
        Due.is("d has 2 at most", x.legsOf(1), 3);
        x.see(4, 0, 20, 3, true);
        Due.is("behind 4 it's c's", x.legsOf(0), ALL - 3);
        Due.is("as told of c", x.legsOf(1), 3);
        BeatenBounds wet = Texts.of("land 40;parish p 20 0;child c 4 0;beat p c 1 0;rain 50;");
        wet.see(1, 0, 20, 2, true);
        wet.see(60, 0, 20, 3, false);
        Due.is("wet as it goes: 4, 5", wet.legsOf(0), 8 + 16);
    }

    private static void asking() {
        BeatenBounds x = Texts.of("land 40;parish p 20 0;child c 4 0;beat p c 1 0;beat p c 1 20;law walk legs;");
        // Behind 20 YEARS the land is columns 0 .. legs: halved at column 16 (legs 16 .. 30).
        Due.is("the cell", x.ask(0, 0, 0), 2016);
        Due.is("left", x.ask(0, 0, 1), 15);
        x.see(1, 0, 20, 16, false);
        Due.is("legs 1 .. 15", x.legsOf(0), (1 << 15) - 1);
        Due.is("the first of two", x.ask(0, 0, 0), 2008);
        Due.is("left", x.ask(0, 0, 1), 8);
        x.see(1, 0, 20, 16, true);
        Due.is("none are left: the first cell", x.ask(0, 0, 0), 0);
        Due.is("none", x.ask(0, 0, 1), 0);
        Due.is("child", x.ask(1, 0, 0), -1);
        Due.is("parish", x.ask(0, 1, 0), -1);
        Due.is("what 2", x.ask(0, 0, 2), -1);
        Due.is("what -1", x.ask(0, 0, -1), -1);
        BeatenBounds late = Texts.of(TEXT);
        // q is beaten by d in YEAR 19, and by c only in YEAR 20.
        Due.is("d tells", late.ask(1, 1, 0), 1600);
        Due.is("half", late.ask(1, 1, 1), 15);
        Due.is("c tells nothing", late.ask(0, 1, 0), 0);
        Due.is("all are left", late.ask(0, 1, 1), 30);
        Due.is("then of p: by c, till d is led", late.ask(0, 0, 0), 0);
        Due.is("d of p", late.ask(1, 0, 0), 2016);
        Due.is("d of q again", late.ask(1, 1, 0), 1600);
        // What was asked ahead leaves nothing: column 1 of q is nobody's.
        BeatenBounds two = Texts.of("land 40;parish p 0 0;parish q 1 0;child c 4 0;beat p c 1 0;beat q c 2 1;");
        two.ask(0, 0, 0);
        Due.is("another parish", two.ask(0, 1, 0), 1700);
        two.see(1, 0, 0, 2, true);
        two.see(1, 1, 2, 0, false);
        Due.is("led later", two.legsOf(0), ALL - 1);
    }

    private static void counts() {
        BeatenBounds x = Texts.of("land 30;parish a 0 0;parish b 0 1;parish c 9 9;child d 3 3;child e 4 4;"
            + "beat a d 1 0;beat b e 2 9;beat a e 3 9;cake a 1 1;law walk 1+2;law quarl 7;");
        x.beat(0, 0, 1);
        int[] due = {3, 2, 3, 30, 4, 0, 0, 6, 1, 7, 0, 0, 1};
        for (int what = 0; what < due.length; what++) {
            Due.is("count " + what, x.count(what), due[what]);
        }
        x.go(2);
        x.see(1, 0, 0, 0, true);
        x.strike(0);
        x.known(1);
        x.carry(2, 0, 1);
        x.carry(2, 1, 1);
        int[] then = {3, 2, 3, 30, 4, 2, 14, 9, 1, 7, 2, 1, 2};
        for (int what = 0; what < then.length; what++) {
            Due.is("count then " + what, x.count(what), then[what]);
        }
        Due.is("count 13", x.count(13), -1);
        Due.is("count -1", x.count(-1), -1);
    }
}
