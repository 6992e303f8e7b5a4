/** The edges of the language and its faults. */
final class EdgesOfLanguage {
    private static final String[] LINE_WORDS = {"land", "parish", "child", "beat", "cake", "rain", "seed", "law"};
    private static final String[] RULES = {"walk", "quarl", "grow"};
    private static final String[] JOINING = {"or", "and", "not"};
    private static final String[] NAMES = {"legs", "mood", "tired", "sweet", "wet", "far", "year"};
    private static final String[][] LANGUAGE = {LINE_WORDS, RULES, JOINING, NAMES};
    private static final String FOUR = "parish a 0 0;parish b 0 1;parish c 0 2;parish d 0 3;";
    private static final String SIX = "child a 1 0;child b 1 0;child c 1 0;child d 1 0;child e 1 0;child f 1 0;";
    private static final String ONE = "parish p 1 1;child c 2 0;";

    private EdgesOfLanguage() {
    }

    static void run() {
        wholeTexts();
        lines();
        rules();
        words();
        names();
        numbers();
        blanks();
        sums();
        numbersOfSums();
        namesOfSums();
        signsOfTwo();
        sizes();
        parishes();
        children();
        beatings();
        cakes();
        rain();
        seed();
        numbered();
        firstFault();
        leastFault();
        noToken();
        cantStand();
        tooMuch();
        knots();
        toldAlready();
        notTold();
    }

    private static void wholeTexts() {
        Doc.terms("A TEXT: { LINE ';' }.");
        Due.sound("", 0);
        Due.sound(" ", 0);
        Due.sound("rain 1;", 1);
        Due.sound("rain 1;seed 1;", 2);
        Due.faulty("rain 1", 1, 6);
        Due.faulty("rain 1 seed 1;", 1, 7);
        Due.faulty(";", 1, 0);
        Due.faulty("rain 1;;", 1, 7);
        // 700 bytes, and the most LINES that they may have: ahead of 16 cakes all that is needed.
        StringBuilder most = new StringBuilder(FOUR);
        for (int k = 0; k < 16; k++) {
            most.append("cake ").append("abcd".charAt(k / 4)).append(' ').append(k % 4).append(" 1;");
        }
        while (most.length() < 693) {
            most.append(' ');
        }
        Due.sound(most + "rain 9;", 21);
        Due.faulty(most + "rain 9 ", 1, 700);
    }

    /** A LINE, then each of its beginnings, closed by ';' or by nothing, then it with one number more. */
    private static void line(String ahead, int lines, String whole) {
        Due.sound(ahead + whole + ";", lines);
        int end = whole.lastIndexOf(' ');
        for (; end > 0; end = whole.lastIndexOf(' ', end - 1)) {
            String begun = ahead + whole.substring(0, end);
            Due.faulty(begun + ";", 1, begun.length());
            Due.faulty(begun, 1, begun.length());
        }
        Due.faulty(ahead + whole, 1, ahead.length() + whole.length());
        Due.faulty(ahead + whole + " 1;", 1, ahead.length() + whole.length() + 1);
    }

    private static void lines() {
        Doc.terms("LINE: land N | parish W N N | child W N N | beat W W N N | cake W N N | rain N | seed N | law RULE E.");
        line("", 1, "land 5");
        line("", 1, "parish p 1 1");
        line("", 1, "child c 1 1");
        line(ONE, 3, "beat p c 1 1");
        line(ONE, 3, "cake p 1 1");
        line("", 1, "rain 1");
        line("", 1, "seed 1");
        line("", 1, "law walk 1");
        for (String[] some : LANGUAGE) {
            for (String word : some) {
                // Each of a LINE's words must come behind with more; none of the others can begin a LINE.
                Due.faulty(word, 1, some == LINE_WORDS ? word.length() : 0);
            }
        }
        Due.faulty("x 1;", 1, 0);
        Due.faulty("1;", 1, 0);
        Due.faulty("parish 1 p 1;", 1, 7);
        Due.faulty("beat p 1 1 1;", 4, 5);
        Due.faulty("parish p 1 1;beat p 1 1 1;", 1, 20);
        Due.faulty("rain x;", 1, 5);
    }

    private static void rules() {
        Doc.terms("RULE: walk | quarl | grow.");
        for (String rule : RULES) {
            Due.sound("law " + rule + " 1;", 1);
        }
        Due.sound("law grow 1;law quarl 1;law walk 1;", 3);
        for (String[] some : LANGUAGE) {
            for (String word : some) {
                if (some != RULES) {
                    Due.faulty("law " + word + " 1;", 1, 4);
                }
            }
        }
        Due.faulty("law x 1;", 1, 4);
        Due.faulty("law walks 1;", 1, 4);
        Due.faulty("law 1;", 1, 4);
        BeatenBounds x = Texts.of("parish p 0 0;parish q 0 1;child c 1 1;law grow 3;law quarl 2;law walk 1;");
        Due.is("walk", x.law(0, 0, 0, 0), 1);
        Due.is("quarl", x.law(1, 0, 1, 0), 2);
        Due.is("grow", x.law(2, 0, 0, 0), 3);
    }

    private static void words() {
        Doc.terms("Words: small letters in a row;");
        Due.sound("child a 1 1;child z 1 1;", 2);
        Due.faulty("Rain 1;", 1, 0);
        Due.faulty("rAin 1;", 1, 0);
        Due.faulty("ra in 1;", 1, 0);
        Due.faulty("rain1 1;", 1, 6);
        Due.sound("rain1;", 1);
        // The signs next to a and z, and A and Z.
        Due.faulty("child ` 1 1;", 1, 6);
        Due.faulty("child { 1 1;", 1, 6);
        Due.faulty("child a` 1 1;", 1, 7);
        Due.faulty("child z{ 1 1;", 1, 7);
        Due.faulty("child aA 1 1;", 1, 7);
        Due.faulty("child Z 1 1;", 1, 6);
        Due.faulty("child a_b 1 1;", 1, 7);
        Due.faulty("child \u00e9 1 1;", 1, 6);
    }

    private static void names() {
        Doc.terms("W: one of 1 .. 6 letters, none of those of the language;");
        Due.sound("parish p 1 1;child c 1 1;", 2);
        Due.sound("parish zzzzzz 1 1;child zzzzzz 1 1;", 2);
        Due.faulty("parish zzzzzzz 1 1;", 1, 7);
        Due.faulty("child zzzzzzz 1 1;", 1, 6);
        Due.faulty("parish 1 1;", 1, 7);
        for (String[] some : LANGUAGE) {
            for (String word : some) {
                Due.faulty("parish " + word + " 1 1;", 1, 7);
                Due.faulty("child " + word + " 1 1;", 1, 6);
                Due.faulty("beat " + word + " c 1 1;", 1, 5);
                Due.faulty(ONE + "beat p " + word + " 1 1;", 1, ONE.length() + 7);
                Due.faulty("cake " + word + " 1 1;", 1, 5);
                // A letter more or less makes another word.
                Due.sound("child " + word.substring(1) + "q 1 1;", 1);
            }
        }
    }

    private static void numbers() {
        Doc.terms("N: digits.");
        BeatenBounds x = Texts.of("land 0000000000000000000000000000000000000000000000009;");
        Due.is("size", x.count(3), 9);
        Due.is("each digit", Texts.of("law walk 1234;child c 1 1;parish p 1 1;").law(0, 0, 0, 0), 1234);
        Due.is("each digit", Texts.of("law walk 5678;child c 1 1;parish p 1 1;").law(0, 0, 0, 0), 5678);
        Due.is("each digit", Texts.of("law walk 0900;child c 1 1;parish p 1 1;").law(0, 0, 0, 0), 900);
        Due.faulty("rain 1 0;", 1, 7);
        Due.faulty("rain +1;", 1, 5);
        Due.faulty("rain -1;", 1, 5);
        Due.faulty("rain 1.0;", 1, 6);
        // The signs next to 0 and 9.
        Due.faulty("rain /;", 1, 5);
        Due.faulty("rain :;", 1, 5);
        Due.faulty("rain 1/;", 1, 6);
        Due.faulty("rain 1:;", 1, 6);
    }

    private static void blanks() {
        Doc.terms("Blanks 10, 32.");
        Due.sound("\n land \n 5 \n ; \n ", 1);
        Due.sound("land\n5;", 1);
        Due.sound("rain5;parish p 1 1;cake p1 1;", 3);
        Due.sound("law walk1+legs;", 1);
        for (int sign = 0; sign < 256; sign++) {
            boolean letter = sign >= 'a' && sign <= 'z';
            if (sign == 10 || sign == 32 || sign >= '0' && sign <= '9') {
                Due.sound("rain" + (char) sign + "5;", 1);
            } else {
                Due.faulty("rain" + (char) sign + "5;", 1, letter ? 0 : 4);
            }
        }
    }

    /** A law of growing, which needs nothing but a child. */
    static void grows(String law, long due) {
        Due.is(law, Texts.of("child x 5 3;law grow " + law + ";").law(2, 0, 0, 0), due);
    }

    private static void faultyLaw(String law, int fault, int place) {
        Due.faulty("law walk " + law + ";", fault, 9 + place);
    }

    private static void sums() {
        Doc.terms("E: A { or A }. A: B { and B }. B: not B | C. C: S [ ( < | <= | = | <> | >= | > ) S ]. "
            + "S: T { ( + | - ) T }. T: P { ( * | / ) P }. P: N | NAME | '(' E ')';");
        grows("0 or 0 or 1", 1);
        grows("1 or 1 and 0", 1);
        grows("(1 or 1) and 0", 0);
        grows("0 and 0 or 1", 1);
        grows("1 and 1 and 0", 0);
        grows("not 0 and 0", 0);
        grows("not (0 and 0)", 1);
        grows("not 1 or 1", 1);
        grows("not not not 1", 0);
        grows("not 1<2", 0);
        grows("not 5=0", 1);
        grows("1+2<2+2", 1);
        grows("2<1+1", 0);
        grows("2+3*4", 14);
        grows("2*3+4", 10);
        grows("9-4-3", 2);
        grows("9-(4-3)", 8);
        grows("100/10/5", 2);
        grows("100/(10/5)", 50);
        grows("7/2*2", 6);
        grows("2*7/2", 7);
        grows("(((legs)))", 5);
        grows("(1<2)=(2>1)", 1);
        String[] once = {"<", "<=", "=", "<>", ">=", ">"};
        for (String sign : once) {
            for (String other : once) {
                faultyLaw("1" + sign + "2" + other + "3", 1, 2 + sign.length());
                faultyLaw("1+1" + sign + "2*2" + other + "3", 1, 6 + sign.length());
            }
            faultyLaw("1" + sign, 1, 1 + sign.length());
            faultyLaw("1" + sign + "not 1", 1, 1 + sign.length());
            faultyLaw(sign + "1", 1, 0);
        }
        for (String sign : new String[] {"+", "-", "*", "/"}) {
            faultyLaw(sign + "1", 1, 0);
            faultyLaw("1" + sign, 1, 2);
            faultyLaw("1" + sign + sign + "1", 1, 2);
            faultyLaw("1" + sign + "not 1", 1, 2);
        }
        for (String word : new String[] {"or", "and"}) {
            faultyLaw(word + " 1", 1, 0);
            faultyLaw("1 " + word, 1, 2 + word.length());
            faultyLaw("1 " + word + " " + word + " 1", 1, 3 + word.length());
            faultyLaw("not " + word, 1, 4);
        }
        faultyLaw("", 1, 0);
        faultyLaw("()", 1, 1);
        faultyLaw("(1", 1, 2);
        faultyLaw("1)", 1, 1);
        faultyLaw("(1))", 1, 3);
        faultyLaw("1 2", 1, 2);
        faultyLaw("1 legs", 1, 2);
        faultyLaw("legs 1", 1, 5);
        faultyLaw("1(2)", 1, 1);
        faultyLaw("(1)2", 1, 3);
        faultyLaw("(1)(2)", 1, 3);
        faultyLaw("1 not 2", 1, 2);
        faultyLaw("not", 1, 3);
        faultyLaw("(not)", 1, 4);
    }

    private static void numbersOfSums() {
        Doc.terms("N of E 0 .. 9999.");
        grows("0", 0);
        grows("9999", 9999);
        grows("00009999", 9999);
        faultyLaw("10000", 2, 0);
        faultyLaw("1+10000", 2, 2);
        faultyLaw("4294967296", 2, 0);
        faultyLaw("18446744073709551616", 2, 0);
    }

    private static void namesOfSums() {
        Doc.terms("NAME: legs mood tired sweet wet far year.");
        for (String[] some : LANGUAGE) {
            for (String word : some) {
                if (some == NAMES) {
                    Due.sound("law walk " + word + ";law quarl " + word + ";law grow " + word + ";", 3);
                } else if (!word.equals("not")) {
                    faultyLaw(word, 1, 0);
                }
            }
        }
        faultyLaw("x", 1, 0);
        faultyLaw("leg", 1, 0);
        faultyLaw("legss", 1, 0);
        Due.faulty("child c 1 1;law walk c;", 1, 21);
    }

    private static void signsOfTwo() {
        Doc.terms("A = (or > behind <) right behind < or > belongs to it.");
        grows("1<=1", 1);
        grows("2<=1", 0);
        grows("1>=1", 1);
        grows("1>=2", 0);
        grows("1<>2", 1);
        grows("1<>1", 0);
        grows("1 < 2", 1);
        faultyLaw("1< =2", 1, 3);
        faultyLaw("1> =2", 1, 3);
        faultyLaw("1< >2", 1, 3);
        faultyLaw("1<\n=2", 1, 3);
        faultyLaw("1=<2", 1, 2);
        faultyLaw("1=>2", 1, 2);
        faultyLaw("1><2", 1, 2);
        faultyLaw("1==2", 1, 2);
        faultyLaw("1<<2", 1, 2);
        faultyLaw("1>>2", 1, 2);
        faultyLaw("1<==2", 1, 3);
        faultyLaw("1>==2", 1, 3);
        faultyLaw("1<>=2", 1, 3);
        faultyLaw("1<=>2", 1, 3);
    }

    private static void sizes() {
        Doc.terms("land: its SIZE 5 .. 40 (20 without; only as the first LINE): as many ROWS, COLUMNS.");
        for (int size : new int[] {5, 6, 20, 39, 40}) {
            BeatenBounds x = Texts.of("land " + size + ";");
            Due.is("size", x.count(3), size);
            Due.is("its last cell", x.owners(size - 1, size - 1), 0);
            Due.is("a row more", x.owners(size, 0), -1);
            Due.is("a column more", x.owners(0, size), -1);
        }
        Due.faulty("land 4;", 2, 5);
        Due.faulty("land 0;", 2, 5);
        Due.faulty("land 41;", 2, 5);
        BeatenBounds without = Texts.of("rain 1;");
        Due.is("20 without", without.count(3), 20);
        Due.is("its last cell", without.owners(19, 19), 0);
        Due.is("a row more", without.owners(20, 19), -1);
        Due.is("a text without land behind one with it", Texts.tell(Texts.of("land 7;"), "rain 1;"), 1);
        BeatenBounds behind = Texts.of("land 7;");
        Texts.tell(behind, "rain 1;");
        Due.is("20 then", behind.count(3), 20);
        Due.faulty("land 5;land 5;", 1, 7);
        Due.faulty("rain 1;land 5;", 1, 7);
    }

    private static void parishes() {
        Doc.terms("PARISHES, at most 4: a ROW, a COLUMN 0 .. SIZE less 1 of the church (one there at most).");
        Due.sound(FOUR, 4);
        Due.faulty(FOUR + "parish e 0 4;", 2, FOUR.length());
        Due.sound("land 5;parish a 4 0;parish b 0 4;parish c 4 4;parish d 0 0;", 5);
        Due.faulty("land 5;parish a 5 0;", 2, 16);
        Due.faulty("land 5;parish a 0 5;", 2, 18);
        Due.sound("land 40;parish a 39 39;", 2);
        Due.faulty("land 40;parish a 40 39;", 2, 17);
        Due.faulty("land 40;parish a 39 40;", 2, 20);
        Due.sound("parish a 19 19;", 1);
        Due.faulty("parish a 20 19;", 2, 9);
        Due.faulty("parish a 19 20;", 2, 12);
        BeatenBounds x = Texts.of("land 5;parish a 4 1;");
        Due.is("its row", x.parish(0, 0), 4);
        Due.is("its column", x.parish(0, 1), 1);
        Due.faulty("parish a 3 4;parish b 3 4;", 3, 24);
        Due.sound("parish a 3 4;parish b 3 5;parish c 4 4;parish d 4 3;", 4);
    }

    private static void children() {
        Doc.terms("CHILDREN, at most 6: LEGS 1 .. 30, MOOD 0 .. 9.");
        Due.sound(SIX, 6);
        Due.faulty(SIX + "child g 1 0;", 2, SIX.length());
        BeatenBounds x = Texts.of("child a 1 0;child b 30 9;");
        Due.is("legs", x.child(0, 0), 1);
        Due.is("mood", x.child(0, 1), 0);
        Due.is("legs", x.child(1, 0), 30);
        Due.is("mood", x.child(1, 1), 9);
        Due.faulty("child a 0 0;", 2, 8);
        Due.faulty("child a 31 0;", 2, 8);
        Due.faulty("child a 30 10;", 2, 11);
    }

    private static void beatings() {
        Doc.terms("BEATINGS, at most 12: a PARISH, a CHILD, a WAY 0 .. 3 (0 up, a ROW less; 1 right; 2 down; 3 left), "
            + "a YEAR 0 .. 99.");
        StringBuilder twelve = new StringBuilder(ONE);
        for (int k = 0; k < 12; k++) {
            twelve.append("beat p c 0 0;");
        }
        Due.sound(twelve.toString(), 14);
        Due.faulty(twelve + "beat p c 0 0;", 2, twelve.length());
        int[][] led = {{2, 4}, {4, 6}, {6, 4}, {4, 2}};
        for (int way = 0; way < 4; way++) {
            BeatenBounds x = Texts.of("land 9;parish p 4 4;child c 2 0;beat p c " + way + " 0;");
            x.go(1);
            for (int other = 0; other < 4; other++) {
                Due.is("way " + way + ", cell " + other, x.owners(led[other][0], led[other][1]), way == other ? 1 : 0);
            }
        }
        Due.faulty(ONE + "beat p c 4 0;", 2, ONE.length() + 9);
        Due.faulty(ONE + "beat p c 3 100;", 2, ONE.length() + 11);
        BeatenBounds late = Texts.of(ONE + "beat p c 1 99;");
        Due.is("ahead of 99", late.ahead(99, 0, 0), 1);
        Due.is("behind it", late.ahead(100, 0, 0), 3);
    }

    private static void cakes() {
        Doc.terms("CAKES: a PARISH, a WAY 0 .. 3, a SIZE 1 .. 9 (each WAY of one once; 0 without).");
        BeatenBounds x = Texts.of(FOUR + "cake a 0 1;cake a 3 9;cake d 3 5;");
        Due.is("the least", x.cake(0, 0), 1);
        Due.is("the most", x.cake(0, 3), 9);
        Due.is("the same way of another", x.cake(3, 3), 5);
        Due.is("0 without", x.cake(0, 1), 0);
        Due.is("0 without", x.cake(1, 0), 0);
        Due.faulty(FOUR + "cake a 4 1;", 2, FOUR.length() + 7);
        Due.faulty(FOUR + "cake a 0 0;", 2, FOUR.length() + 9);
        Due.faulty(FOUR + "cake a 0 10;", 2, FOUR.length() + 9);
        Due.faulty(FOUR + "cake a 0 1;cake a 0 2;", 3, FOUR.length() + 18);
    }

    private static void rain() {
        Doc.terms("rain: of a hundred 0 .. 100 (0).");
        Due.is("0", Texts.of("rain 0;").dry(1, 0), 1);
        Due.is("1 of a hundred", Texts.of("rain 1;").dry(1, 0), 99);
        Due.is("of a hundred", Texts.of("rain 1;").dry(1, 1), 100);
        Due.is("100", Texts.of("rain 100;").dry(1, 0), 0);
        Due.faulty("rain 101;", 2, 5);
        Due.is("0 without", Texts.of("seed 1;").dry(1, 0), 1);
        BeatenBounds x = Texts.of("rain 100;");
        Texts.tell(x, "seed 1;");
        Due.is("0 without, behind a text with it", x.dry(1, 0), 1);
    }

    private static void seed() {
        Doc.terms("seed: 0 .. 99999 (0).");
        Due.faulty("seed 100000;", 2, 5);
        // The first number of seed 0 is 0, wet in any rain; of 1 it is 16838, of 99999 it is 12802: both dry below 3.
        String walk = ONE + "rain 2;beat p c 1 0;";
        int[] seeds = {0, 1, 99999};
        int[] areas = {2, 3, 3};
        for (int k = 0; k < 3; k++) {
            BeatenBounds x = Texts.of(walk + "seed " + seeds[k] + ";");
            x.go(1);
            long first = (seeds[k] * 1103515245L + 12345) % 2147483648L / 65536;
            Due.is("number of seed " + seeds[k], first % 100 < 2 ? 2 : 3, areas[k]);
            Due.is("area by seed " + seeds[k], x.parish(0, 6), areas[k]);
        }
        BeatenBounds x = Texts.of(walk + "seed 1;");
        Texts.tell(x, walk);
        x.go(1);
        Due.is("0 without, behind a text with it", x.parish(0, 6), 2);
    }

    private static void numbered() {
        Doc.terms("All numbered as they come; PARISHES, CHILDREN have names of their kind.");
        BeatenBounds x = Texts.of("parish b 1 1;child b 2 0;parish a 2 2;child a 3 0;");
        Due.is("parish b", x.named(0, Texts.letters("b")), 0);
        Due.is("parish a", x.named(0, Texts.letters("a")), 1);
        Due.is("its row", x.parish(1, 0), 2);
        Due.is("child b", x.named(1, Texts.letters("b")), 0);
        Due.is("child a", x.named(1, Texts.letters("a")), 1);
        Due.is("its legs", x.child(1, 0), 3);
        BeatenBounds beaten = Texts.of("parish p 0 0;child c 9 0;beat p c 1 0;beat p c 2 0;");
        beaten.go(1);
        Due.is("the first beating", beaten.parish(0, 3), 9);
        Due.is("the second one", beaten.parish(0, 4), 8);
    }

    private static void firstFault() {
        Doc.terms("FAULTS, the first along the text");
        Due.faulty("land 4;rain 101;", 2, 5);
        Due.faulty("parish p 1 1;parish p 99 1;", 3, 20);
        Due.faulty("parish p 1 1;cake p 1 1;cake p 1 99;", 3, 31);
        Due.faulty("beat p c 9 999;", 4, 5);
        Due.faulty("rain 101!", 2, 5);
        Due.faulty("rain 1!;rain 101;", 1, 6);
        Due.faulty(FOUR + "parish !", 2, FOUR.length());
        Due.faulty("rain 1;rain 101;", 3, 7);
        Due.faulty("law walk 1;law walk 10000;", 3, 15);
        Due.faulty("parish p 1 1;parish q 1 1!", 3, 24);
        Due.faulty("law walk 10000+!;", 2, 9);
        Due.faulty("law walk (((((((((10000;", 2, 17);
    }

    private static void leastFault() {
        Doc.terms("(of one place the least), with its place:");
        // A 65th KNOT, and it can't stand there.
        String full = sumOf(32) + "+";
        Due.faulty("law walk " + full + "and 1;", 1, 9 + full.length());
        Due.faulty("law walk " + full + "*1;", 1, 9 + full.length());
        Due.faulty("law walk " + full + "not 1;", 1, 9 + full.length());
        Due.faulty("law walk " + full + "1;", 2, 9 + full.length());
        String compared = "not 1=" + sumOf(31);
        Due.faulty("law walk " + compared + "=1;", 1, 9 + compared.length());
        // A ninth bracket, and it can't stand there.
        Due.faulty("law walk ((((((((1(1;", 1, 18);
        Due.faulty("law walk (((((((((1;", 2, 17);
        // A COLUMN beyond the land is nobody's church.
        Due.faulty("parish p 1 1;parish q 1 99;", 2, 24);
        // A name that is none isn't told ahead, either.
        Due.faulty("beat walk c 0 0;", 1, 5);
        Due.faulty("beat abcdefg c 0 0;", 1, 5);
    }

    /** As many numbers, joined: twice as many KNOTS less one. */
    private static String sumOf(int numbers) {
        StringBuilder sum = new StringBuilder("1");
        for (int k = 1; k < numbers; k++) {
            sum.append("+1");
        }
        return sum.toString();
    }

    private static void noToken() {
        Doc.terms("1 a TOKEN that is none (a word of more than 6 letters that is none of the language, too)");
        for (int sign = 0; sign < 256; sign++) {
            boolean begins = sign >= 'a' && sign <= 'z' || sign >= '0' && sign <= '9' || sign == 10 || sign == 32;
            if (!begins && "();+-*/<>=".indexOf(sign) < 0) {
                Due.faulty("rain 1;" + (char) sign, 1, 7);
                Due.faulty("law walk 1+" + (char) sign + ";", 1, 11);
                Due.faulty("law walk 1" + (char) sign + "1;", 1, 10);
            }
        }
        Due.faulty("landland 5;", 1, 0);
        Due.faulty("parishe 1;", 1, 0);
        Due.faulty("rain 1;abcdefg", 1, 7);
        Due.faulty("law walk abcdefghijkl;", 1, 9);
        Due.faulty("law walk 1 abcdefg 1;", 1, 11);
        Due.sound("parish abcdef 1 1;", 1);
    }

    private static void cantStand() {
        Doc.terms("or can't stand there (the length, if more must come; a land that isn't the first LINE).");
        Due.faulty("rain ;", 1, 5);
        Due.faulty("rain 1 1;", 1, 7);
        Due.faulty("rain", 1, 4);
        Due.faulty("rain  \n", 1, 7);
        Due.faulty("rain 1", 1, 6);
        Due.faulty("parish p 1 1;cake", 1, 17);
        Due.faulty("law walk (1", 1, 11);
        Due.faulty("law walk 1+ ", 1, 12);
        Due.faulty("rain 1;land 5;", 1, 7);
        Due.faulty("rain 1; land", 1, 8);
        Due.faulty("land 5;land 5;", 1, 7);
    }

    private static void tooMuch() {
        Doc.terms("2 too much (at it): a number beyond what is said,");
        Due.faulty("land 41;", 2, 5);
        Due.faulty("land 4;", 2, 5);
        Due.faulty("rain  101 ;", 2, 6);
        Due.faulty("seed 99999999999999999999999999;", 2, 5);
        // What wraps round to a number within is beyond all the same.
        Due.faulty("land 4294967306;", 2, 5);
        Due.faulty("land 18446744073709551626;", 2, 5);
        Due.faulty("law walk 65536;", 2, 9);
        Doc.terms("a fifth parish and so on (at the word of the LINE),");
        Due.faulty(FOUR + "parish a 0 0;", 2, FOUR.length());
        Due.faulty(FOUR + "  parish", 2, FOUR.length() + 2);
        Due.faulty(SIX + "child a 1 0;", 2, SIX.length());
        StringBuilder twelve = new StringBuilder(ONE);
        for (int k = 0; k < 12; k++) {
            twelve.append("beat p c 0 0;");
        }
        Due.faulty(twelve + "beat", 2, twelve.length());
        Due.faulty(twelve + " beat q c 0 0;", 2, twelve.length() + 1);
        Doc.terms("a ninth '(' open,");
        Due.sound("law walk ((((((((1))))))));", 1);
        Due.faulty("law walk (((((((((1)))))))));", 2, 17);
        Due.sound("law walk ((((((((1))))))))+((((((((1))))))));", 1);
        Due.faulty("law walk ((((((((1)+((1;", 2, 21);
        Due.sound("law walk (((((((1)+((1))))))));", 1);
        Due.sound("law walk ((((((((1))))))));law grow ((((((((1))))))));", 2);
        Due.faulty("law walk not(not(not(not(not(not(not(not(not(1)))))))));", 2, 9 + 8 * 4 + 3);
    }

    private static void knots() {
        Doc.terms("a 65th KNOT of all E (N, NAMES, signs, not, and, or: one each).");
        String all = "law walk " + sumOf(32) + ";law quarl not 1";
        Due.faulty(all + ";", 2, all.length() - 1);
        BeatenBounds x = Texts.of("law walk " + sumOf(32) + ";law quarl 1;");
        Due.is("64", x.count(4), 64);
        Due.faulty("law walk " + sumOf(33) + ";", 2, 9 + 64);
        Due.faulty("law walk " + sumOf(32) + ";law quarl 1;law grow 1;", 2, 9 + 63 + 13 + 9);
        String[] one = {"7", "legs", "mood", "tired", "sweet", "wet", "far", "year"};
        for (String part : one) {
            Due.is(part, Texts.of("law walk " + part + ";").count(4), 1);
            Due.faulty("law walk " + sumOf(32) + "+" + part + ";", 2, 9 + 64);
        }
        for (String sign : new String[] {"+", "-", "*", "/", "<", "<=", "=", "<>", ">=", ">", " and ", " or "}) {
            Due.is(sign, Texts.of("law walk 1" + sign + "2;").count(4), 3);
            // 63 of walk and grow's 1: its sign is the 65th.
            Due.faulty("law walk " + sumOf(32) + ";law grow 1" + sign + "2;", 2, 83 + (sign.charAt(0) == ' ' ? 1 : 0));
        }
        Due.is("not", Texts.of("law walk not 1;").count(4), 2);
        // As many as may wait for their part at once.
        String nots = "not ".repeat(63);
        Due.is("63 times not", Texts.of("law walk " + nots + "((((((((1))))))));").count(4), 64);
        Due.faulty("law walk " + nots + "not 1;", 2, 9 + 64 * 4);
        Due.faulty("law walk " + nots + "((((((((not 1", 2, 9 + 63 * 4 + 8 + 4);
        grows(nots + "((((((((5))))))))", 0);
        grows(nots + "((((((((0))))))))", 1);
        Due.is("brackets are none", Texts.of("law walk ((1));").count(4), 1);
        Due.is("a text with a fault leaves them", Texts.tell(x, "law walk 1"), -1);
        Due.is("64 still", x.count(4), 64);
        Texts.tell(x, "law walk " + sumOf(32) + ";");
        Due.is("counted anew", x.count(4), 63);
    }

    private static void toldAlready() {
        Doc.terms("3 told already: a name of its kind (at W),");
        Due.faulty("parish p 1 1;parish p 2 2;", 3, 20);
        Due.faulty("child c 1 1;child c 2 2;", 3, 18);
        Due.faulty("child a 1 1;child bb 1 1;child  bb 2 2;", 3, 32);
        Due.sound("parish p 1 1;child p 1 1;", 2);
        Due.sound("parish p 1 1;parish pp 2 2;", 2);
        Doc.terms("a church in a cell (at the COLUMN),");
        Due.faulty("parish p 1 1;parish q 1  1;", 3, 25);
        Due.faulty("parish p 0 0;parish q 1 0;parish r 0 0;", 3, 37);
        Due.sound("parish p 1 2;parish q 2 1;", 2);
        Doc.terms("a CAKE of a WAY (at the WAY),");
        Due.faulty("parish p 1 1;cake p 3 1;cake p  3 2;", 3, 32);
        Due.sound("parish p 1 1;parish q 1 2;cake p 3 1;cake p 2 1;cake q 3 1;", 5);
        Doc.terms("rain, seed (at the word),");
        Due.faulty("rain 0; rain 0;", 3, 8);
        Due.faulty("seed 0; seed 0;", 3, 8);
        Due.faulty("rain 1;seed 1;rain", 3, 14);
        Doc.terms("a law of its RULE (at RULE).");
        for (String rule : RULES) {
            Due.faulty("law " + rule + " 0;law  " + rule + " 0;", 3, 12 + rule.length());
        }
        Due.faulty("law walk 1;law grow 1;law walk;", 3, 26);
    }

    private static void notTold() {
        Doc.terms("4 a PARISH, a CHILD that isn't told ahead (at W).");
        Due.faulty("beat p c 0 0;" + ONE, 4, 5);
        Due.faulty("parish p 1 1;beat p c 0 0;child c 1 1;", 4, 20);
        Due.faulty("cake  p 0 1;parish p 1 1;", 4, 6);
        Due.faulty(ONE + "beat c p 0 0;", 4, ONE.length() + 5);
        Due.faulty(ONE + "beat p p 0 0;", 4, ONE.length() + 7);
        Due.faulty(ONE + "cake c 0 1;", 4, ONE.length() + 5);
        Due.faulty(ONE + "cake pp 0 1;", 4, ONE.length() + 5);
        BeatenBounds x = Texts.of(ONE);
        Due.is("told by the text ahead is not told", Texts.tell(x, "cake p 0 1;"), -1);
        Due.is("its fault", x.fault(0), 4);
    }
}
