/** The edges of promises 1 to 5: a new object, its tape, texts, faults, names. */
final class EdgesOfTexts {
    private EdgesOfTexts() {
    }

    static void run() {
        newObject();
        feed();
        text();
        textAsNew();
        textWithFault();
        textOfTooMany();
        fault();
        named();
    }

    private static void newObject() {
        Doc.promise(1, "A TEXT without LINES;");
        BeatenBounds x = new BeatenBounds();
        BeatenBounds told = Texts.of("");
        Due.same("as behind an empty text", Whole.of(x), Whole.of(told));
        int[] counts = {0, 0, 0, 20, 0, 0, 0, 0, 0, 0, 0, 0, 0};
        for (int what = 0; what < counts.length; what++) {
            Due.is("count " + what, x.count(what), counts[what]);
        }
        Due.is("no parish", Whole.thrown(x, 0, 0), 1);
        Due.is("no child", x.child(0, 0), -1);
        Due.is("cells of nobody", x.owners(0, 0), 0);
        Due.is("no image", x.back(), -1);
        Due.is("go", x.go(200), 200);
        Doc.promise(1, "an empty TAPE.");
        BeatenBounds empty = new BeatenBounds();
        Due.is("text(1)", empty.text(1), -2);
        Due.is("text(0)", empty.text(0), 0);
        Due.is("feed", empty.feed(0, 0, 0, 0, 0), 20);
    }

    private static void feed() {
        Doc.promise(2, "Twenty bytes come behind the TAPE, four of each number, the highest first: how many it has;");
        BeatenBounds x = new BeatenBounds();
        // "rain 12;seed 345;ch" "ild abc 30 9;" with each byte in its place
        Due.is("feed", x.feed(0x7261696e, 0x2031323b, 0x73656564, 0x20333435, 0x3b636869), 20);
        Due.is("feed", x.feed(0x6c642061, 0x62632033, 0x3020393b, 0x20202020, 0x20202020), 40);
        Due.is("text", x.text(40), 3);
        Due.is("rain", x.dry(1, 0), 22);
        Due.is("child", x.named(1, Texts.letters("abc")), 0);
        Due.is("legs", x.child(0, 0), 30);
        for (int place = 0; place < 20; place++) {
            int[] numbers = {0x20202020, 0x20202020, 0x20202020, 0x20202020, 0x20202020};
            // A byte above 127 makes a number below 0 where it is the highest.
            numbers[place / 4] ^= 0xdf << 24 - place % 4 * 8;
            BeatenBounds odd = new BeatenBounds();
            odd.feed(numbers[0], numbers[1], numbers[2], numbers[3], numbers[4]);
            Due.is("a byte 255", odd.text(20), -1);
            Due.is("at its place", odd.fault(1), place);
        }
        Doc.promise(2, "NONE, and none come, if it would have more than 700.");
        BeatenBounds full = new BeatenBounds();
        for (int k = 1; k <= 35; k++) {
            Due.is("feed", full.feed(0x20202020, 0x20202020, 0x20202020, 0x20202020, 0x20202020), 20 * k);
        }
        Due.is("one more", full.feed(0x21212121, 0x21212121, 0x21212121, 0x21212121, 0x21212121), -1);
        Due.is("and more", full.feed(0x21212121, 0x21212121, 0x21212121, 0x21212121, 0x21212121), -1);
        Due.is("none came", full.text(701), -2);
        Due.is("none of them anywhere", full.text(700), 0);
        Due.is("room again", full.feed(0, 0, 0, 0, 0), 20);
    }

    private static BeatenBounds busy() {
        BeatenBounds x = Texts.of("land 9;parish p 4 4;parish q 4 6;child c 3 2;cake p 1 2;rain 50;seed 7;beat p c 1 0;"
            + "law grow 1;law walk legs+sweet;");
        x.go(2);
        x.see(1, 0, 4, 4, true);
        x.strike(0);
        x.known(1);
        x.keep();
        x.beat(0, 0, 2);
        x.bake(1, 1, 5);
        return x;
    }

    private static void text() {
        Doc.promise(3, "The TAPE's first n bytes (it is empty then) are the TEXT");
        BeatenBounds x = new BeatenBounds();
        // "rain 7;rain 8;      "
        x.feed(0x7261696e, 0x20373b72, 0x61696e20, 0x383b2020, 0x20202020);
        Due.is("the first seven", x.text(7), 1);
        Due.is("rain", x.dry(1, 0), 93);
        Due.is("the tape is empty", x.text(1), -2);
        Due.is("empty", x.feed(0x20202020, 0x20202020, 0x20202020, 0x20202020, 0x20202020), 20);
        Due.is("text(0)", x.text(0), 0);
        Due.is("empty again", x.text(1), -2);
        Due.is("no rain", x.dry(1, 0), 1);
        // What lies behind these on the TAPE isn't looked at.
        cut("law walk 1<=2;", 11, -1, 11);
        cut("law walk 1<>2;", 11, -1, 11);
        cut("law walk 1>=2;", 11, -1, 11);
        cut("rain 10;", 6, -1, 6);
        cut("rain 1000;", 8, -1, 8);
        cut("rain 5;", 4, -1, 4);
        cut("rain;", 3, -1, 0);
        cut("child abcdefg 1 0;", 12, -1, 12);
        cut("rain 5; !", 8, 1, -1);
        cut("rain 5;!", 7, 1, -1);
        BeatenBounds longer = new BeatenBounds();
        Texts.tell(longer, "rain 10;child abc 1 1;law walk 1>=2;");
        // On a TAPE that is empty again the bytes ahead are no part of the next TEXT.
        longer.feed(0x7261696e, 0x2037203b, 0x20202020, 0x20202020, 0x20202020);
        Due.is("not so many", longer.text(21), -2);
        Due.is("these alone", longer.text(20), 1);
        Due.is("rain", longer.dry(1, 0), 93);
        Due.is("no child", longer.count(1), 0);
    }

    private static void textAsNew() {
        Doc.promise(3, "(YEAR 0, all FAR 0, nobody TIRED, no QUARREL, nothing SEEN, all KNOWN, no IMAGE, "
            + "nothing to undo then): how many LINES;");
        BeatenBounds busy = busy();
        String again = "land 9;parish p 4 4;parish q 4 6;child c 3 2;cake p 1 2;rain 50;seed 7;";
        Due.is("lines", Texts.tell(busy, again), 7);
        Due.same("as new", Whole.of(busy), Whole.of(Texts.of(again)));
        Due.is("year", busy.count(5), 0);
        Due.is("far", busy.parish(0, 3), 0);
        Due.is("tired", busy.child(0, 2), 0);
        Due.is("legs", busy.child(0, 0), 3);
        Due.is("quarrel", busy.count(6), 0);
        Due.is("seen", busy.count(10), 0);
        Due.is("no image", busy.back(), -1);
        Due.is("nothing to undo", busy.undo(), -1);
        Due.is("no law", busy.law(2, 0, 0, 0), Long.MIN_VALUE);
        Due.is("seen", busy.see(1, 0, 8, 8, true), 0);
        Due.is("all known: nothing fits", busy.legsOf(0), 0);
    }

    private static void textWithFault() {
        Doc.promise(3, "NONE with a FAULT, all stays;");
        BeatenBounds stays = busy();
        String ahead = Whole.of(stays);
        String spoiled = "land 5;parish x 0 0;child y 9 9;law walk 3;rain 9;seed 8;!";
        Due.is("a fault at the end", Texts.tell(stays, spoiled), -1);
        Due.same("all stays", Whole.of(stays), ahead);
        Due.is("the tape is empty", stays.text(1), -2);
        Due.is("names stay", stays.named(0, Texts.letters("q")), 1);
        Due.is("no new names", stays.named(0, Texts.letters("x")), -1);
        Due.is("laws stay", stays.law(2, 0, 0, 0), 1);
        Due.is("rain stays", stays.dry(1, 1), 2);
        Due.is("what can be undone stays", stays.undo(), 1);
        Due.is("the image stays", stays.back(), 2);
        Due.is("it goes on", stays.go(1), 3);
        // Nor does a FAULT leave anything to the next TEXT: signs that waited, brackets, KNOTS, what was told.
        String[] begun = {"law walk 1+", "law walk ((((((((1", "law walk not not not", "law walk 1 or 2 and 3<4*",
            "rain 1;rain", "seed 1;seed",
            "parish p 1 1;child c 1 1;cake p 1 1;beat p c 1 1;law grow 1;law quarl 1;law walk 1"};
        for (String one : begun) {
            BeatenBounds next = new BeatenBounds();
            Due.is("a fault: " + one, Texts.tell(next, one), -1);
            Due.is("no fault behind " + one, Texts.tell(next, "rain 2;seed 2;parish p 1 1;child c 1 1;cake p 1 2;"
                + "law walk ((((((((7))))))));law grow 8;law quarl 9;"), 8);
            Due.is("walk", next.law(0, 0, 0, 0), 7);
            Due.is("grow", next.law(2, 0, 0, 0), 8);
            Due.is("knots", next.count(4), 3);
            Due.is("beatings", next.count(2), 0);
            Due.is("brackets behind " + one, Texts.tell(next, "law walk (((((((((7)))))))));"), -1);
            Due.is("the ninth", next.fault(1), 17);
        }
    }

    private static void textOfTooMany() {
        Doc.promise(3, "-2, and the TAPE stays: there are not so many, n is below 0.");
        BeatenBounds few = new BeatenBounds();
        Due.is("1 of none", few.text(1), -2);
        few.feed(0x7261696e, 0x20373b20, 0x20202020, 0x20202020, 0x20202020);
        for (int n : new int[] {21, 700, Integer.MAX_VALUE, -1, Integer.MIN_VALUE}) {
            Due.is("text " + n, few.text(n), -2);
            Due.is("no fault of it", few.fault(0), 0);
        }
        Due.is("the tape stays", few.text(20), 1);
        Due.is("as it was", few.dry(1, 0), 93);
        BeatenBounds kept = busy();
        String all = Whole.of(kept);
        Due.is("not so many", kept.text(1), -2);
        Due.same("all stays with it", Whole.of(kept), all);
    }

    /** A text of the first bytes of a longer one. */
    private static void cut(String text, int n, int lines, int place) {
        BeatenBounds x = new BeatenBounds();
        for (int[] feed : Texts.feeds(text)) {
            x.feed(feed[0], feed[1], feed[2], feed[3], feed[4]);
        }
        Due.is("text(" + n + ") of " + text, x.text(n), lines);
        Due.is("fault of " + n + " of " + text, x.fault(0), lines < 0 ? 1 : 0);
        Due.is("place of " + n + " of " + text, x.fault(1), place);
    }

    private static void fault() {
        Doc.promise(4, "Of the latest text() that was not -2, what 0: its FAULT (0), 1: its place (NONE without).");
        BeatenBounds x = new BeatenBounds();
        Due.is("of none", x.fault(0), 0);
        Due.is("of none", x.fault(1), -1);
        Texts.tell(x, "  !");
        Due.is("its fault", x.fault(0), 1);
        Due.is("its place", x.fault(1), 2);
        Due.is("text", x.text(1), -2);
        Due.is("its fault still", x.fault(0), 1);
        Due.is("its place still", x.fault(1), 2);
        Due.is("text", x.text(-1), -2);
        Due.is("its fault still", x.fault(0), 1);
        Texts.tell(x, "rain 999;");
        Due.is("the latest", x.fault(0), 2);
        Due.is("the latest", x.fault(1), 5);
        Texts.tell(x, "rain 9;");
        Due.is("0", x.fault(0), 0);
        Due.is("NONE without", x.fault(1), -1);
        Doc.promise(4, "NONE for another what.");
        Texts.tell(x, "rain 999;");
        for (int what : Whole.noneOf(2)) {
            Due.is("fault " + what, x.fault(what), -1);
        }
    }

    private static void named() {
        Doc.promise(5, "The number of a PARISH (what 0), a CHILD (1) by its letters, 5 bits each "
            + "(a is 1; the first one highest of six, 0 behind the last one);");
        BeatenBounds x = Texts.of("parish a 0 0;parish z 0 1;parish azazaz 0 2;parish abcdef 0 3;"
            + "child abcdef 1 1;child z 1 1;");
        Due.is("a", x.named(0, 1 << 25), 0);
        Due.is("z", x.named(0, 26 << 25), 1);
        Due.is("azazaz", x.named(0, 1 << 25 | 26 << 20 | 1 << 15 | 26 << 10 | 1 << 5 | 26), 2);
        Due.is("abcdef", x.named(0, 1 << 25 | 2 << 20 | 3 << 15 | 4 << 10 | 5 << 5 | 6), 3);
        Due.is("child abcdef", x.named(1, 1 << 25 | 2 << 20 | 3 << 15 | 4 << 10 | 5 << 5 | 6), 0);
        Due.is("child z", x.named(1, 26 << 25), 1);
        Doc.promise(5, "NONE: there is none such.");
        Due.is("a child's", x.named(1, 1 << 25), -1);
        Due.is("another one", x.named(0, 2 << 25), -1);
        Due.is("a as the last one", x.named(0, 1), -1);
        Due.is("a then nothing then b", x.named(0, 1 << 25 | 2 << 15), -1);
        Due.is("abcde", x.named(0, 1 << 25 | 2 << 20 | 3 << 15 | 4 << 10 | 5 << 5), -1);
        Due.is("no letters", x.named(0, 0), -1);
        Due.is("a with more bits", x.named(0, 1 << 30 | 1 << 25), -1);
        Due.is("a with the sign", x.named(0, Integer.MIN_VALUE | 1 << 25), -1);
        Due.is("all bits", x.named(1, -1), -1);
        for (int what : Whole.noneOf(2)) {
            Due.is("what " + what, x.named(what, 26 << 25), -1);
        }
        BeatenBounds none = new BeatenBounds();
        Due.is("of nobody", none.named(0, 0), -1);
        Due.is("of nobody", none.named(1, 0), -1);
    }
}
