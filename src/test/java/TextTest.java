/** Promises 1 to 5: a new object, feed, text, fault, named; the language and its faults. */
public final class TextTest {
    public static void main(String[] args) {
        newObject();
        feeding();
        texts();
        cutTexts();
        lines();
        tokens();
        tooMuch();
        toldAlready();
        notTold();
        laws();
        knots();
        names();
        Due.end();
    }

    private static void newObject() {
        BeatenBounds x = new BeatenBounds();
        int[] due = {0, 0, 0, 20, 0, 0, 0, 0, 0, 0, 0, 0, 0, -1};
        for (int what = 0; what < due.length; what++) {
            Due.is("new count(" + what + ")", x.count(what), due[what]);
        }
        Due.is("new fault(0)", x.fault(0), 0);
        Due.is("new fault(1)", x.fault(1), -1);
        Due.is("new undo", x.undo(), -1);
        Due.is("new back", x.back(), -1);
        Due.is("new text(1): the tape is empty", x.text(1), -2);
        Due.is("new text(0)", x.text(0), 0);
        Due.is("new dry: no rain", x.dry(3, 0), 1);
        Due.is("new law", x.law(2, 0, 0, 0), Long.MIN_VALUE);
    }

    private static void feeding() {
        BeatenBounds x = new BeatenBounds();
        for (int k = 1; k <= 35; k++) {
            Due.is("feed " + k, x.feed(538976288, 538976288, 538976288, 538976288, 538976288), 20 * k);
        }
        Due.is("feed beyond 700", x.feed(1, 1, 1, 1, 1), -1);
        Due.is("text(701)", x.text(701), -2);
        Due.is("text(700) of blanks", x.text(700), 0);
        Due.is("feed on an empty tape", x.feed(0, 0, 0, 0, 0), 20);
        // The highest byte of a number comes first, and a number below 0 is four bytes, too.
        Due.is("feed", x.feed(-1, -1, -1, -1, -1), 40);
        Due.is("text of bytes 0", x.text(40), -1);
        Due.is("byte 0 is no token", x.fault(0), 1);
        Due.is("its place", x.fault(1), 0);
        x.feed(0x72616920, 0x37ff3b20, 0, 0, 0);
        Due.is("rai 7", x.text(5), -1);
        Due.is("its place", x.fault(1), 0);
        x.feed(0x7261696e, 0x37ff3b20, 0, 0, 0);
        Due.is("rain7 and byte 255", x.text(7), -1);
        Due.is("byte 255", x.fault(0), 1);
        Due.is("its place", x.fault(1), 5);
    }

    private static void texts() {
        BeatenBounds x = Texts.of("land 7;parish p 1 1;child c 3 0;beat p c 1 0;rain 40;");
        x.go(3);
        x.see(1, 0, 1, 1, true);
        x.known(0);
        x.keep();
        x.beat(0, 0, 2);
        Due.is("a text with a fault", Texts.tell(x, "land 9;x"), -1);
        Due.is("all stays: size", x.count(3), 7);
        Due.is("all stays: year", x.count(5), 3);
        Due.is("all stays: seen", x.count(10), 1);
        Due.is("all stays: known", x.count(11), 0);
        Due.is("all stays: undo", x.count(12), 1);
        Due.is("all stays: image", x.back(), 3);
        Due.is("the tape is empty", x.feed(0, 0, 0, 0, 0), 20);
        Due.is("text(-1)", x.text(-1), -2);
        Due.is("text(21)", x.text(21), -2);
        Due.is("the tape stays", x.feed(0, 0, 0, 0, 0), 40);
        Due.is("fault stays with -2", x.fault(0), 1);
        Due.is("its place stays", x.fault(1), 7);
        Due.is("fault(2)", x.fault(2), -1);
        Due.is("fault(-1)", x.fault(-1), -1);
        Due.is("an empty text", x.text(0), 0);
        Due.is("its fault", x.fault(0), 0);
        Due.is("its place", x.fault(1), -1);
        int[] due = {0, 0, 0, 20, 0, 0, 0, 0, 0, 0, 0, 0, 0};
        for (int what = 0; what < due.length; what++) {
            Due.is("count(" + what + ") behind an empty text", x.count(what), due[what]);
        }
        Due.is("no image behind a text", x.back(), -1);
        Due.is("nothing to undo behind a text", x.undo(), -1);
        Due.is("dry behind a text", x.dry(1, 0), 1);
        String again = "land 7;parish p 1 1;child c 3 0;cake p 1 4;law grow 1;";
        Texts.tell(x, again);
        x.carry(0, 1, 2);
        x.beat(0, 0, 2);
        x.bake(0, 1, 8);
        Due.is("the same text again", Texts.tell(x, again), 5);
        Due.is("all FAR 0", x.parish(0, 6), 1);
        Due.is("nobody TIRED", x.child(0, 2), 0);
        Due.is("the cake as told", x.cake(0, 1), 4);
        x.go(5);
        Texts.tell(x, again);
        Due.is("legs as told", x.child(0, 0), 3);
        Due.is("year 0", x.count(5), 0);
    }

    /** A text of the first bytes only: what lies behind them on the tape isn't looked at. */
    private static void cut(String text, int n, int lines, int fault, int place) {
        BeatenBounds x = new BeatenBounds();
        for (int[] feed : Texts.feeds(text)) {
            x.feed(feed[0], feed[1], feed[2], feed[3], feed[4]);
        }
        Due.is("text(" + n + ") of " + text, x.text(n), lines);
        Due.is("fault(0) of " + n + " of " + text, x.fault(0), fault);
        Due.is("fault(1) of " + n + " of " + text, x.fault(1), place);
    }

    private static void cutTexts() {
        cut("law walk 1<=2;", 11, -1, 1, 11);
        cut("law walk 1<>2;", 11, -1, 1, 11);
        cut("law walk 1>=2;", 11, -1, 1, 11);
        cut("law walk 1>2;;", 13, 1, 0, -1);
        cut("rain 1000;", 8, -1, 1, 8);
        cut("rain;", 3, -1, 1, 0);
        cut("child abcdefg 1 0;", 12, -1, 1, 12);
        cut("child abcdefg 1 0;", 13, -1, 1, 6);
        cut("land 5;x", 7, 1, 0, -1);
    }

    private static void lines() {
        Due.sound("", 0);
        Due.sound(" \n ", 0);
        Due.sound("land 5;", 1);
        Due.sound("land 40;parish a 39 39;", 2);
        Due.sound("parish a 19 19;", 1);
        Due.sound("land\n0012\n;\nrain7;seed 99999;", 3);
        Due.sound("parish p 0 0;child p 1 0;beat p p 3 99;cake p 3 9;rain 100;law walk 1;law quarl 2;law grow 3;", 8);
        Due.sound("child abcdef 30 9;", 1);
        Due.sound("parish a 0 0;parish b 0 1;parish c 0 2;parish d 0 3;", 4);
        Due.faulty("land 5", 1, 6);
        Due.faulty("land 5  ", 1, 8);
        Due.faulty("land", 1, 4);
        Due.faulty("land ;", 1, 5);
        Due.faulty("land x;", 1, 5);
        Due.faulty("land 5 5;", 1, 7);
        Due.faulty("land 5;;", 1, 7);
        Due.faulty(";", 1, 0);
        Due.faulty("land 5;land 5;", 1, 7);
        Due.faulty("rain 5;land 5;", 1, 7);
        Due.faulty("parish 3 3 3;", 1, 7);
        Due.faulty("parish p 3;", 1, 10);
        Due.faulty("child c 3;", 1, 9);
        Due.faulty("beat 1 2 3 4;", 1, 5);
        Due.faulty("walk 3;", 1, 0);
        Due.faulty("lands 5;", 1, 0);
        Due.faulty("7;", 1, 0);
        Due.faulty("rain;", 1, 4);
        Due.faulty("seed -1;", 1, 5);
    }

    private static void tokens() {
        Due.faulty("parish abcdefg 1 1;", 1, 7);
        Due.faulty("parishes 1 1;", 1, 0);
        Due.faulty("parish parish 1 1;", 1, 7);
        Due.faulty("parish wet 1 1;", 1, 7);
        Due.faulty("child not 1 1;", 1, 6);
        Due.faulty("child Ann 1 1;", 1, 6);
        Due.faulty("child a1 1 1;", 1, 11);
        Due.faulty("child a.b 1 1;", 1, 7);
        Due.faulty("rain\t5;", 1, 4);
        Due.faulty("rain 5\r;", 1, 6);
        Due.faulty("rain 5;!", 1, 7);
        Due.faulty("rain 500;!", 2, 5);
    }

    private static void tooMuch() {
        Due.faulty("land 4;", 2, 5);
        Due.faulty("land 41;", 2, 5);
        Due.faulty("land 99999999999999999999;", 2, 5);
        Due.faulty("land 4294967301;", 2, 5);
        Due.faulty("land 5;parish p 5 0;", 2, 16);
        Due.faulty("land 5;parish p 0 5;", 2, 18);
        Due.faulty("child c 0 1;", 2, 8);
        Due.faulty("child c 31 1;", 2, 8);
        Due.faulty("child c 30 10;", 2, 11);
        Due.faulty("rain 101;", 2, 5);
        Due.faulty("seed 100000;", 2, 5);
        String four = "parish a 0 0;parish b 0 1;parish c 0 2;parish d 0 3;";
        Due.faulty(four + "parish a 0 0;", 2, four.length());
        Due.faulty(four + " parish", 2, four.length() + 1);
        StringBuilder six = new StringBuilder();
        for (char c = 'a'; c <= 'f'; c++) {
            six.append("child ").append(c).append(" 1 1;");
        }
        Due.sound(six.toString(), 6);
        Due.faulty(six + "child g 1 1;", 2, six.length());
        StringBuilder beats = new StringBuilder("parish p 0 0;child c 1 1;");
        for (int k = 0; k < 12; k++) {
            beats.append("beat p c 0 ").append(k).append(';');
        }
        Due.sound(beats.toString(), 14);
        Due.faulty(beats + "beat q c 0 0;", 2, beats.length());
        Due.faulty("parish p 0 0;child c 1 1;beat p c 4 100;", 2, 34);
        Due.faulty("parish p 0 0;child c 1 1;beat p c 3 100;", 2, 36);
        Due.faulty("parish p 0 0;cake p 4 0;", 2, 20);
        Due.faulty("parish p 0 0;cake p 3 0;", 2, 22);
        Due.faulty("parish p 0 0;cake p 3 10;", 2, 22);
        StringBuilder cakes = new StringBuilder("parish p 0 0;parish q 0 1;parish r 0 2;parish s 0 3;");
        for (int k = 0; k < 16; k++) {
            cakes.append("cake ").append("pqrs".charAt(k / 4)).append(' ').append(k % 4).append(" 1;");
        }
        Due.sound(cakes.toString(), 20);
    }

    private static void toldAlready() {
        Due.faulty("parish p 1 1;parish p 1 1;", 3, 20);
        Due.faulty("parish p 1 1;parish q 1 1;", 3, 24);
        Due.sound("parish p 1 2;parish q 2 1;", 2);
        Due.faulty("child c 1 1;child c 1 1;", 3, 18);
        Due.faulty("parish p 1 1;cake p 1 1;cake p 2 1;cake p 1 99;", 3, 42);
        Due.sound("parish p 1 1;parish q 1 2;cake p 1 1;cake q 1 1;", 4);
        Due.faulty("rain 0;rain 0;", 3, 7);
        Due.faulty("seed 0;seed 0;", 3, 7);
        Due.faulty("law walk 1;law walk 1;", 3, 15);
        Due.faulty("law quarl 1;law quarl 1;", 3, 16);
        Due.faulty("law grow 1;law grow 1;", 3, 15);
    }

    private static void notTold() {
        Due.faulty("beat p c 0 0;parish p 0 0;", 4, 5);
        Due.faulty("parish p 0 0;beat p p 0 0;", 4, 20);
        Due.faulty("child c 1 1;beat c c 0 0;", 4, 17);
        Due.faulty("child c 1 1;cake c 0 1;", 4, 17);
        Due.faulty("parish pa 0 0;cake p 0 1;", 4, 19);
        // What tells nothing is a fault of its own ahead of that.
        Due.faulty("beat legs c 0 0;", 1, 5);
        Due.faulty("cake abcdefg 0 1;", 1, 5);
    }

    private static void laws() {
        Due.sound("law walk ((((((((1))))))));", 1);
        Due.faulty("law walk (((((((((1)))))))));", 2, 17);
        Due.sound("law walk (1)+(2)*((((((((3))))))))+((((4))));", 1);
        Due.sound("law walk not not 1<2 and not(3=4) or legs;", 1);
        Due.sound("law walk 1<>2;law quarl 1>=2;law grow 1<=2;", 3);
        Due.sound("law walk (1<2)<(3>2);", 1);
        Due.sound("law walk 9999;", 1);
        Due.faulty("law walk 10000;", 2, 9);
        Due.faulty("law walk 1<2<3;", 1, 12);
        Due.faulty("law walk 1+2=3+4=5;", 1, 16);
        Due.faulty("law walk 1< =2;", 1, 12);
        Due.faulty("law walk 1=<2;", 1, 11);
        Due.faulty("law walk 1><2;", 1, 11);
        Due.faulty("law walk 1=>2;", 1, 11);
        Due.faulty("law walk 1+not 2;", 1, 11);
        Due.faulty("law walk 1<not 2;", 1, 11);
        Due.faulty("law walk 1 not 2;", 1, 11);
        Due.faulty("law walk -1;", 1, 9);
        Due.faulty("law walk 1 2;", 1, 11);
        Due.faulty("law walk 1(2);", 1, 10);
        Due.faulty("law walk legs mood;", 1, 14);
        Due.faulty("law walk (1;", 1, 11);
        Due.faulty("law walk 1);", 1, 10);
        Due.faulty("law walk ();", 1, 10);
        Due.faulty("law walk ;", 1, 9);
        Due.faulty("law walk", 1, 8);
        Due.faulty("law walk 1", 1, 10);
        Due.faulty("law walk 1+", 1, 11);
        Due.faulty("law walk 1+;", 1, 11);
        Due.faulty("law walk (1", 1, 11);
        Due.faulty("law walk 1 and or 2;", 1, 15);
        Due.faulty("law walk ann;", 1, 9);
        Due.faulty("law walk land;", 1, 9);
        Due.faulty("law wet 1;", 1, 4);
        Due.faulty("law or 1;", 1, 4);
        Due.faulty("law law 1;", 1, 4);
        Due.faulty("law 1;", 1, 4);
        Due.faulty("law", 1, 3);
    }

    private static void knots() {
        // 32 numbers and 31 signs, then a not: 64 in all, brackets don't count.
        StringBuilder most = new StringBuilder("law walk not (1");
        for (int k = 0; k < 31; k++) {
            most.append("+1");
        }
        BeatenBounds x = new BeatenBounds();
        Due.is("64 knots", Texts.tell(x, most + ");"), 1);
        Due.is("count(4)", x.count(4), 64);
        Due.faulty(most + "+1);", 2, most.length());
        Due.faulty(most + ");law grow 1;", 2, most.length() + 11);
        Due.faulty(most + ");law grow (;", 1, most.length() + 12);
        Due.faulty(most + ");law grow (not 1);", 2, most.length() + 12);
        Due.faulty(most + ");law grow 10000;", 2, most.length() + 11);
        Due.faulty(most + ";", 1, most.length());
        Texts.tell(x, "law walk legs+mood*tired-sweet/wet<=far and not year or (2);");
        Due.is("a knot each", x.count(4), 16);
        // A not that waits for its part counts where it stands.
        StringBuilder nots = new StringBuilder("law walk ");
        for (int k = 0; k < 64; k++) {
            nots.append("not ");
        }
        Due.faulty(nots + "1;", 2, nots.length());
        Due.sound(nots.substring(0, nots.length() - 4) + "1;", 1);
    }

    private static void names() {
        BeatenBounds x = Texts.of("parish a 0 0;parish abcdef 0 1;parish z 1 1;child z 1 1;child ba 1 1;");
        Due.is("named a", x.named(0, 1 << 25), 0);
        Due.is("named abcdef", x.named(0, Texts.letters("abcdef")), 1);
        Due.is("named z", x.named(0, 26 << 25), 2);
        Due.is("named child z", x.named(1, 26 << 25), 0);
        Due.is("named child ba", x.named(1, (2 << 25) + (1 << 20)), 1);
        Due.is("named child a", x.named(1, 1 << 25), -1);
        Due.is("named abcde", x.named(0, Texts.letters("abcde")), -1);
        Due.is("named 0", x.named(0, 0), -1);
        Due.is("named -1", x.named(0, -1), -1);
        Due.is("named, a lowest", x.named(0, 1), -1);
        Due.is("named what 2", x.named(2, 1 << 25), -1);
        Due.is("named what -1", x.named(-1, 1 << 25), -1);
        Texts.tell(x, "parish z 0 0;");
        Due.is("named of the text ahead", x.named(0, 1 << 25), -1);
        Due.is("named z now", x.named(0, 26 << 25), 0);
        Due.is("named child of the text ahead", x.named(1, 26 << 25), -1);
    }
}
