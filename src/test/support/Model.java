import java.math.BigInteger;
import java.util.ArrayDeque;
import java.util.ArrayList;
import java.util.Deque;
import java.util.HashMap;
import java.util.LinkedHashMap;
import java.util.List;
import java.util.Map;
import java.util.Set;
import java.util.TreeSet;

/**
 * The document once more, told as slowly and as plainly as can be: sets of cells, trees, copies
 * of everything. It shares no line with the class, so that both agree only by the document.
 */
final class Model {
    static final int NONE = -1;
    static final BigInteger LIMIT = BigInteger.TEN.pow(12);
    static final Set<String> LANGUAGE = Set.of("land", "parish", "child", "beat", "cake", "rain", "seed", "law",
        "walk", "quarl", "grow", "or", "and", "not", "legs", "mood", "tired", "sweet", "wet", "far", "year");
    static final Set<String> NAMES = Set.of("legs", "mood", "tired", "sweet", "wet", "far", "year");
    static final List<String> RULES = List.of("walk", "quarl", "grow");

    static final class Fault extends RuntimeException {
        private static final long serialVersionUID = 1;
        final int which;
        final int place;

        Fault(int which, int place) {
            this.which = which;
            this.place = place;
        }
    }

    static final class Token {
        final String sign;
        final int place;

        Token(String sign, int place) {
            this.sign = sign;
            this.place = place;
        }

        boolean isNumber() {
            return !sign.isEmpty() && Character.isDigit(sign.charAt(0));
        }

        boolean isWord() {
            return sign.matches("[a-z]{1,6}") && !LANGUAGE.contains(sign);
        }

        boolean is(String... any) {
            for (String one : any) {
                if (sign.equals(one)) {
                    return true;
                }
            }
            return false;
        }
    }

    static final class Tree {
        final String sign;
        final Tree one;
        final Tree other;

        Tree(String sign, Tree one, Tree other) {
            this.sign = sign;
            this.one = one;
            this.other = other;
        }
    }

    static final class Church {
        final int row;
        final int column;

        Church(int row, int column) {
            this.row = row;
            this.column = column;
        }
    }

    static final class Beating {
        int parish;
        int child;
        int way;
        int year;
    }

    /** What a text tells. */
    static final class Tale {
        int size = 20;
        int lines;
        int knots;
        Integer rain;
        Integer seed;
        final Map<String, Integer> parishes = new LinkedHashMap<>();
        final List<Church> churches = new ArrayList<>();
        final Map<String, Integer> children = new LinkedHashMap<>();
        final List<Integer> legs = new ArrayList<>();
        final List<Integer> moods = new ArrayList<>();
        final List<Beating> beatings = new ArrayList<>();
        final Map<Integer, Integer> cakes = new HashMap<>();
        final Map<String, Tree> laws = new HashMap<>();

        int rain() {
            return rain == null ? 0 : rain;
        }
    }

    /** Recursive descent, as the grammar stands. */
    static final class Parser {
        final List<Token> tokens = new ArrayList<>();
        int next;
        int open;
        final Tale tale = new Tale();

        Parser(int[] bytes) {
            int at = 0;
            while (at < bytes.length) {
                int first = bytes[at];
                if (first == 10 || first == 32) {
                    at++;
                    continue;
                }
                StringBuilder sign = new StringBuilder().append((char) first);
                int start = at++;
                String kin = first >= 'a' && first <= 'z' ? "[a-z]" : first >= '0' && first <= '9' ? "[0-9]" : null;
                while (kin != null && at < bytes.length && String.valueOf((char) bytes[at]).matches(kin)) {
                    sign.append((char) bytes[at++]);
                }
                if (at < bytes.length && (first == '<' && (bytes[at] == '=' || bytes[at] == '>')
                        || first == '>' && bytes[at] == '=')) {
                    sign.append((char) bytes[at++]);
                }
                tokens.add(new Token(sign.toString(), start));
            }
            tokens.add(new Token("", bytes.length));
        }

        Token peek() {
            return tokens.get(next);
        }

        Token take() {
            return tokens.get(next++);
        }

        void want(String sign) {
            if (!peek().is(sign)) {
                throw new Fault(1, peek().place);
            }
            take();
        }

        int number(int least, int most) {
            Token token = peek();
            if (!token.isNumber()) {
                throw new Fault(1, token.place);
            }
            BigInteger value = new BigInteger(token.sign);
            if (value.compareTo(BigInteger.valueOf(least)) < 0 || value.compareTo(BigInteger.valueOf(most)) > 0) {
                throw new Fault(2, token.place);
            }
            take();
            return value.intValue();
        }

        String word() {
            if (!peek().isWord()) {
                throw new Fault(1, peek().place);
            }
            return take().sign;
        }

        int known(Map<String, Integer> names) {
            int place = peek().place;
            Integer found = names.get(word());
            if (found == null) {
                throw new Fault(4, place);
            }
            return found;
        }

        String fresh(Map<String, Integer> names) {
            int place = peek().place;
            String name = word();
            if (names.containsKey(name)) {
                throw new Fault(3, place);
            }
            return name;
        }

        void whole() {
            while (!peek().is("")) {
                line();
                want(";");
                tale.lines++;
            }
        }

        void line() {
            Token word = peek();
            switch (word.sign) {
                case "land":
                    if (tale.lines > 0) {
                        throw new Fault(1, word.place);
                    }
                    take();
                    tale.size = number(5, 40);
                    break;
                case "parish":
                    parish(word);
                    break;
                case "child":
                    if (tale.children.size() == 6) {
                        throw new Fault(2, word.place);
                    }
                    take();
                    tale.children.put(fresh(tale.children), tale.children.size());
                    tale.legs.add(number(1, 30));
                    tale.moods.add(number(0, 9));
                    break;
                case "beat":
                    beating(word);
                    break;
                case "cake":
                    cake();
                    break;
                case "rain":
                    if (tale.rain != null) {
                        throw new Fault(3, word.place);
                    }
                    take();
                    tale.rain = number(0, 100);
                    break;
                case "seed":
                    if (tale.seed != null) {
                        throw new Fault(3, word.place);
                    }
                    take();
                    tale.seed = number(0, 99999);
                    break;
                case "law":
                    law();
                    break;
                default:
                    throw new Fault(1, word.place);
            }
        }

        void parish(Token word) {
            if (tale.parishes.size() == 4) {
                throw new Fault(2, word.place);
            }
            take();
            tale.parishes.put(fresh(tale.parishes), tale.parishes.size());
            int row = number(0, tale.size - 1);
            int place = peek().place;
            int column = number(0, tale.size - 1);
            for (Church church : tale.churches) {
                if (church.row == row && church.column == column) {
                    throw new Fault(3, place);
                }
            }
            tale.churches.add(new Church(row, column));
        }

        void beating(Token word) {
            if (tale.beatings.size() == 12) {
                throw new Fault(2, word.place);
            }
            take();
            Beating beating = new Beating();
            beating.parish = known(tale.parishes);
            beating.child = known(tale.children);
            beating.way = number(0, 3);
            beating.year = number(0, 99);
            tale.beatings.add(beating);
        }

        void cake() {
            take();
            int parish = known(tale.parishes);
            int place = peek().place;
            int way = number(0, 3);
            if (tale.cakes.containsKey(10 * parish + way)) {
                throw new Fault(3, place);
            }
            tale.cakes.put(10 * parish + way, number(1, 9));
        }

        void law() {
            take();
            Token rule = peek();
            if (!RULES.contains(rule.sign)) {
                throw new Fault(1, rule.place);
            }
            if (tale.laws.containsKey(rule.sign)) {
                throw new Fault(3, rule.place);
            }
            take();
            open = 0;
            tale.laws.put(rule.sign, e());
        }

        String knot() {
            if (tale.knots == 64) {
                throw new Fault(2, peek().place);
            }
            tale.knots++;
            return take().sign;
        }

        Tree e() {
            Tree tree = a();
            while (peek().is("or")) {
                String sign = knot();
                tree = new Tree(sign, tree, a());
            }
            return tree;
        }

        Tree a() {
            Tree tree = b();
            while (peek().is("and")) {
                String sign = knot();
                tree = new Tree(sign, tree, b());
            }
            return tree;
        }

        Tree b() {
            if (peek().is("not")) {
                String sign = knot();
                return new Tree(sign, b(), null);
            }
            Tree tree = s();
            if (peek().is("<", "<=", "=", "<>", ">=", ">")) {
                String sign = knot();
                return new Tree(sign, tree, s());
            }
            return tree;
        }

        Tree s() {
            Tree tree = t();
            while (peek().is("+", "-")) {
                String sign = knot();
                tree = new Tree(sign, tree, t());
            }
            return tree;
        }

        Tree t() {
            Tree tree = p();
            while (peek().is("*", "/")) {
                String sign = knot();
                tree = new Tree(sign, tree, p());
            }
            return tree;
        }

        Tree p() {
            Token token = peek();
            if (token.is("(")) {
                if (open == 8) {
                    throw new Fault(2, token.place);
                }
                open++;
                take();
                Tree tree = e();
                want(")");
                open--;
                return tree;
            }
            if (token.isNumber()) {
                number(0, 9999);
                next--;
                return new Tree(knot(), null, null);
            }
            if (!NAMES.contains(token.sign)) {
                throw new Fault(1, token.place);
            }
            return new Tree(knot(), null, null);
        }
    }

    /** null: an ERROR. */
    static BigInteger worked(Tree tree, Map<String, Long> names) {
        if (tree.one == null) {
            return names.containsKey(tree.sign) ? BigInteger.valueOf(names.get(tree.sign)) : new BigInteger(tree.sign);
        }
        BigInteger a = worked(tree.one, names);
        if (a == null) {
            return null;
        }
        if (tree.sign.equals("not")) {
            return truth(a.signum() == 0);
        }
        BigInteger b = worked(tree.other, names);
        if (b == null) {
            return null;
        }
        BigInteger value;
        switch (tree.sign) {
            case "or":
                return truth(a.signum() != 0 | b.signum() != 0);
            case "and":
                return truth(a.signum() != 0 & b.signum() != 0);
            case "<":
                return truth(a.compareTo(b) < 0);
            case "<=":
                return truth(a.compareTo(b) <= 0);
            case "=":
                return truth(a.equals(b));
            case "<>":
                return truth(!a.equals(b));
            case ">=":
                return truth(a.compareTo(b) >= 0);
            case ">":
                return truth(a.compareTo(b) > 0);
            case "+":
                value = a.add(b);
                break;
            case "-":
                value = a.subtract(b);
                break;
            case "*":
                value = a.multiply(b);
                break;
            default:
                value = b.signum() == 0 ? null : a.divide(b);
        }
        return value == null || value.abs().compareTo(LIMIT) > 0 ? null : value;
    }

    static BigInteger truth(boolean is) {
        return is ? BigInteger.ONE : BigInteger.ZERO;
    }

    /** The land in a year; every change is made on a copy of its own. */
    final class State {
        final Map<Integer, Integer> far = new HashMap<>();
        final Map<Integer, Integer> cakes = new HashMap<>();
        final List<Integer> legs = new ArrayList<>();
        final List<Integer> tired = new ArrayList<>();
        int quarrel;
        int year;
        BigInteger number = BigInteger.ZERO;
        int unled = NONE;
        boolean tireless;

        State copy() {
            State copy = new State();
            copy.far.putAll(far);
            copy.cakes.putAll(cakes);
            copy.legs.addAll(legs);
            copy.tired.addAll(tired);
            copy.quarrel = quarrel;
            copy.year = year;
            copy.number = number;
            return copy;
        }

        int farOf(int parish, int way) {
            return far.getOrDefault(10 * parish + way, 0);
        }

        int cakeOf(int parish, int way) {
            return cakes.getOrDefault(10 * parish + way, 0);
        }

        Set<Integer> cells(int parish) {
            Church church = tale.churches.get(parish);
            Set<Integer> cells = new TreeSet<>();
            for (int row = church.row - farOf(parish, 0); row <= church.row + farOf(parish, 2); row++) {
                for (int column = church.column - farOf(parish, 3); column <= church.column + farOf(parish, 1); column++) {
                    cells.add(100 * row + column);
                }
            }
            return cells;
        }

        Set<Integer> both(int one, int other) {
            Set<Integer> cells = cells(one);
            cells.retainAll(cells(other));
            return cells;
        }

        boolean touch(int one, int other) {
            Set<Integer> cells = cells(other);
            for (int cell : cells(one)) {
                if (cells.contains(cell) || cells.contains(cell + 1) || cells.contains(cell - 1)
                        || cells.contains(cell + 100) || cells.contains(cell - 100)) {
                    return true;
                }
            }
            return false;
        }

        int edge(int parish, int way) {
            Church church = tale.churches.get(parish);
            int[] edges = {church.row, tale.size - 1 - church.column, tale.size - 1 - church.row, church.column};
            return edges[way];
        }

        BigInteger law(String rule, Integer child, long sweet, long far, boolean wet) {
            Tree tree = tale.laws.get(rule);
            if (tree == null) {
                return null;
            }
            Map<String, Long> names = new HashMap<>();
            names.put("legs", child == null ? 0L : legs.get(child));
            names.put("mood", child == null ? 0L : tale.moods.get(child));
            names.put("tired", child == null ? 0L : tired.get(child));
            names.put("sweet", sweet);
            names.put("wet", wet ? 1L : 0L);
            names.put("far", far);
            names.put("year", (long) year);
            return worked(tree, names);
        }

        void lead(int parish, int child, int way, boolean wet) {
            BigInteger law = law("walk", child, cakeOf(parish, way), farOf(parish, way), wet);
            int walked;
            if (law == null) {
                walked = Math.max(0, legs.get(child) + cakeOf(parish, way) - tired.get(child));
                walked = wet ? walked / 2 : walked;
            } else {
                walked = clamp(law, 0, 99);
            }
            far.put(10 * parish + way, Math.min(walked, edge(parish, way)));
            if (!tireless) {
                tired.set(child, Math.min(99, tired.get(child) + 1));
            }
        }

        void year(boolean wet) {
            for (Beating beating : tale.beatings) {
                if (beating.year == year && beating.child != unled) {
                    lead(beating.parish, beating.child, beating.way, wet);
                }
            }
            for (int one = 0; one < parishes(); one++) {
                for (int other = one + 1; other < parishes(); other++) {
                    int overlap = both(one, other).size();
                    if (overlap > 0) {
                        BigInteger law = law("quarl", null, 0, overlap, wet);
                        quarrel = Math.min(99999, quarrel + (law == null ? overlap : clamp(law, 0, 999)));
                    }
                }
            }
            for (int child = 0; child < children(); child++) {
                tired.set(child, Math.max(0, tired.get(child) - 1));
                BigInteger law = law("grow", child, 0, 0, wet);
                int more = law == null ? 0 : clamp(law, -9, 9);
                legs.set(child, Math.max(0, Math.min(30, legs.get(child) + more)));
            }
            year++;
        }

        State asItGoes(int n) {
            for (int k = 0; k < n; k++) {
                year(wetByCall());
            }
            return this;
        }

        State byNumbers(int n) {
            for (int k = 0; k < n; k++) {
                if (tale.rain() == 0 || tale.rain() == 100) {
                    year(tale.rain() == 100);
                } else {
                    number = number.multiply(BigInteger.valueOf(1103515245)).add(BigInteger.valueOf(12345))
                        .mod(BigInteger.TWO.pow(31));
                    year(number.intValue() / 65536 % 100 < tale.rain());
                }
            }
            return this;
        }

        int areas() {
            int sum = 0;
            for (int parish = 0; parish < parishes(); parish++) {
                sum += cells(parish).size();
            }
            return sum;
        }

        int overlaps() {
            int sum = 0;
            for (int one = 0; one < parishes(); one++) {
                for (int other = one + 1; other < parishes(); other++) {
                    sum += both(one, other).size();
                }
            }
            return sum;
        }
    }

    static int clamp(BigInteger value, int least, int most) {
        return value.max(BigInteger.valueOf(least)).min(BigInteger.valueOf(most)).intValue();
    }

    final List<Integer> tape = new ArrayList<>();
    Tale tale = new Tale();
    State now = new State();
    State image;
    final Deque<State> deeds = new ArrayDeque<>();
    /** years, parish, row, column, is (1 or 0); or the number of what is struck alone. */
    final List<int[]> sights = new ArrayList<>();
    int knownBy = NONE;
    int fault;
    int place = NONE;

    int parishes() {
        return tale.churches.size();
    }

    int children() {
        return tale.legs.size();
    }

    boolean wetByCall() {
        return tale.rain() >= 50;
    }

    boolean isParish(int parish) {
        return parish >= 0 && parish < parishes();
    }

    boolean isChild(int child) {
        return child >= 0 && child < children();
    }

    boolean isWay(int way) {
        return way >= 0 && way <= 3;
    }

    boolean isCell(int row, int column) {
        return row >= 0 && column >= 0 && row < tale.size && column < tale.size;
    }

    boolean isPair(int one, int other) {
        return isParish(one) && isParish(other) && one != other;
    }

    State told() {
        State state = new State();
        state.cakes.putAll(tale.cakes);
        state.legs.addAll(tale.legs);
        for (int k = 0; k < children(); k++) {
            state.tired.add(0);
        }
        state.number = BigInteger.valueOf(tale.seed == null ? 0 : tale.seed);
        return state;
    }

    int feed(int... numbers) {
        if (tape.size() + 20 > 700) {
            return NONE;
        }
        for (int number : numbers) {
            for (int shift = 24; shift >= 0; shift -= 8) {
                tape.add(number >> shift & 255);
            }
        }
        return tape.size();
    }

    int text(int n) {
        if (n < 0 || n > tape.size()) {
            return -2;
        }
        int[] bytes = new int[n];
        for (int k = 0; k < n; k++) {
            bytes[k] = tape.get(k);
        }
        tape.clear();
        Parser parser = new Parser(bytes);
        fault = 0;
        place = NONE;
        try {
            parser.whole();
        } catch (Fault found) {
            fault = found.which;
            place = found.place;
            return NONE;
        }
        tale = parser.tale;
        now = told();
        image = null;
        deeds.clear();
        sights.clear();
        knownBy = NONE;
        return tale.lines;
    }

    int named(int what, int letters) {
        Map<String, Integer> names = what == 0 ? tale.parishes : what == 1 ? tale.children : Map.of();
        for (Map.Entry<String, Integer> entry : names.entrySet()) {
            int sum = 0;
            for (int k = 0; k < 6; k++) {
                sum = 32 * sum + (k < entry.getKey().length() ? entry.getKey().charAt(k) - 96 : 0);
            }
            if (sum == letters) {
                return entry.getValue();
            }
        }
        return NONE;
    }

    /** -100: IndexOutOfBoundsException, -101: NoSuchElementException. */
    int parish(int parish, int what) {
        if (!isParish(parish)) {
            return -100;
        }
        if (what < 0 || what > 7) {
            return -101;
        }
        if (what >= 2 && what <= 5) {
            return now.farOf(parish, what - 2);
        }
        if (what == 6) {
            return now.cells(parish).size();
        }
        if (what == 7) {
            int bits = 0;
            for (int other = 0; other < parishes(); other++) {
                bits += other != parish && now.touch(parish, other) ? 1 << other : 0;
            }
            return bits;
        }
        return what == 0 ? tale.churches.get(parish).row : tale.churches.get(parish).column;
    }

    int child(int child, int what) {
        if (!isChild(child) || what < 0 || what > 2) {
            return NONE;
        }
        return List.of(now.legs, tale.moods, now.tired).get(what).get(child);
    }

    int cake(int parish, int way) {
        return isParish(parish) && isWay(way) ? now.cakeOf(parish, way) : NONE;
    }

    int owners(int row, int column) {
        if (!isCell(row, column)) {
            return NONE;
        }
        int bits = 0;
        for (int parish = 0; parish < parishes(); parish++) {
            bits += now.cells(parish).contains(100 * row + column) ? 1 << parish : 0;
        }
        return bits;
    }

    int overlap(int one, int other) {
        return isPair(one, other) ? now.both(one, other).size() : NONE;
    }

    int taken() {
        Set<Integer> cells = new TreeSet<>();
        for (int parish = 0; parish < parishes(); parish++) {
            cells.addAll(now.cells(parish));
        }
        return cells.size();
    }

    int disputed() {
        Set<Integer> cells = new TreeSet<>();
        for (int one = 0; one < parishes(); one++) {
            for (int other = one + 1; other < parishes(); other++) {
                cells.addAll(now.both(one, other));
            }
        }
        return cells.size();
    }

    long law(int what, int one, int other, int way) {
        BigInteger value = null;
        if (what == 0 && isChild(one) && isParish(other) && isWay(way)) {
            value = now.law("walk", one, now.cakeOf(other, way), now.farOf(other, way), wetByCall());
        } else if (what == 1 && isPair(one, other)) {
            value = now.law("quarl", null, 0, now.both(one, other).size(), wetByCall());
        } else if (what == 2 && isChild(one)) {
            value = now.law("grow", one, 0, 0, wetByCall());
        }
        return value == null ? Long.MIN_VALUE : value.longValueExact();
    }

    void remember() {
        deeds.addFirst(now.copy());
        while (deeds.size() > 20) {
            deeds.removeLast();
        }
    }

    int beat(int parish, int child, int way) {
        if (!isParish(parish) || !isChild(child) || !isWay(way)) {
            return NONE;
        }
        remember();
        now.lead(parish, child, way, wetByCall());
        return now.farOf(parish, way);
    }

    boolean bake(int parish, int way, int size) {
        if (!isParish(parish) || !isWay(way) || size < 0 || size > 9 || now.cakeOf(parish, way) == size) {
            return false;
        }
        remember();
        now.cakes.put(10 * parish + way, size);
        return true;
    }

    int carry(int parish, int way, int far) {
        if (!isParish(parish) || !isWay(way) || far < 0 || far > now.edge(parish, way)
                || now.farOf(parish, way) == far) {
            return NONE;
        }
        remember();
        now.far.put(10 * parish + way, far);
        return now.cells(parish).size();
    }

    int go(int n) {
        if (n < 0 || n > 200 || now.year + n > 9800) {
            return NONE;
        }
        if (n > 0) {
            deeds.clear();
        }
        return now.byNumbers(n).year;
    }

    int ahead(int n, int what, int i) {
        if (n < 0 || n > 200) {
            return NONE;
        }
        if (what == 0 && isParish(i)) {
            return now.copy().asItGoes(n).cells(i).size();
        }
        if (what == 1) {
            return now.copy().asItGoes(n).quarrel - now.quarrel;
        }
        if (what == 2 && isChild(i)) {
            return now.copy().asItGoes(n).legs.get(i);
        }
        return what == 3 ? now.copy().asItGoes(n).overlaps() : NONE;
    }

    int when(int parish, int row, int column) {
        if (!isParish(parish) || !isCell(row, column)) {
            return NONE;
        }
        State state = now.copy();
        for (int k = 0; k <= 199; k++) {
            if (state.cells(parish).contains(100 * row + column)) {
                return k;
            }
            state.asItGoes(1);
        }
        return -2;
    }

    int laid(int parish, int what) {
        if (!isParish(parish) || what < 0 || what > 4) {
            return NONE;
        }
        List<int[]> ways = new ArrayList<>();
        choose(ways, new int[4], 0);
        int[] best = null;
        int most = -1;
        for (int[] picks : ways) {
            State state = now.copy();
            for (int way = 0; way < 4; way++) {
                if (picks[way] >= 0) {
                    state.lead(parish, picks[way], way, wetByCall());
                }
            }
            int high = state.farOf(parish, 0) + state.farOf(parish, 2) + 1;
            int area = high * (state.farOf(parish, 1) + state.farOf(parish, 3) + 1);
            if (area > most) {
                most = area;
                best = picks;
            }
        }
        return what == 4 ? most : best[what];
    }

    void choose(List<int[]> all, int[] picks, int way) {
        if (way == 4) {
            all.add(picks.clone());
            return;
        }
        for (int child = 0; child < children(); child++) {
            boolean free = true;
            for (int k = 0; k < way; k++) {
                free &= picks[k] != child;
            }
            if (free) {
                picks[way] = child;
                choose(all, picks, way + 1);
            }
        }
        picks[way] = -2;
        choose(all, picks, way + 1);
    }

    int cakeFor(int parish, int child, int way, int row, int column) {
        if (!isParish(parish) || !isChild(child) || !isWay(way) || !isCell(row, column)) {
            return NONE;
        }
        for (int size = 0; size <= 9; size++) {
            State state = now.copy();
            state.cakes.put(10 * parish + way, size);
            state.lead(parish, child, way, wetByCall());
            if (state.cells(parish).contains(100 * row + column)) {
                return size;
            }
        }
        return -2;
    }

    int cut(int one, int other, int what) {
        if (!isPair(one, other) || what < 0 || what > 2) {
            return NONE;
        }
        Set<Integer> cells = now.both(one, other);
        if (cells.size() < 2) {
            return -2;
        }
        int[] best = null;
        for (int kind = 0; kind < 2; kind++) {
            Set<Integer> lines = new TreeSet<>();
            for (int cell : cells) {
                lines.add(kind == 0 ? cell / 100 : cell % 100);
            }
            int behind = 0;
            for (int line : lines) {
                behind++;
                if (behind == lines.size()) {
                    break;
                }
                int ahead = 0;
                for (int cell : cells) {
                    ahead += (kind == 0 ? cell / 100 : cell % 100) <= line ? 1 : -1;
                }
                if (best == null || Math.abs(ahead) < best[2]) {
                    best = new int[] {kind, behind, Math.abs(ahead)};
                }
            }
        }
        return best[what];
    }

    int realms() {
        List<Set<Integer>> sets = new ArrayList<>();
        for (int parish = 0; parish < parishes(); parish++) {
            Set<Integer> joined = new TreeSet<>(Set.of(parish));
            List<Set<Integer>> apart = new ArrayList<>();
            for (Set<Integer> set : sets) {
                boolean touches = false;
                for (int other : set) {
                    touches |= now.touch(parish, other);
                }
                if (touches) {
                    joined.addAll(set);
                } else {
                    apart.add(set);
                }
            }
            apart.add(joined);
            sets = apart;
        }
        return sets.size();
    }

    int colours() {
        for (int colours = 0;; colours++) {
            if (paints(new int[parishes()], 0, colours)) {
                return colours;
            }
        }
    }

    boolean paints(int[] paint, int parish, int colours) {
        if (parish == parishes()) {
            return true;
        }
        for (int colour = 0; colour < colours; colour++) {
            boolean free = true;
            for (int other = 0; other < parish; other++) {
                free &= paint[other] != colour || !now.touch(parish, other);
            }
            if (free) {
                paint[parish] = colour;
                if (paints(paint, parish + 1, colours)) {
                    return true;
                }
            }
        }
        return false;
    }

    List<Integer> restsOf(int one, int other) {
        int overlap = now.both(one, other).size();
        int first = -(now.cells(one).size() / 10);
        int second = -(now.cells(other).size() / 10);
        int[][] ones = {{-overlap, overlap}, {first, overlap / 2}};
        int[][] others = {{-overlap, second}, {overlap, overlap / 2}};
        List<Integer> found = new ArrayList<>();
        for (int i = 0; i < 2; i++) {
            for (int j = 0; j < 2; j++) {
                if (ones[1 - i][j] <= ones[i][j] && others[i][1 - j] <= others[i][j]) {
                    found.add(10 * i + j);
                }
            }
        }
        return found;
    }

    int rests(int one, int other) {
        return isPair(one, other) ? restsOf(one, other).size() : NONE;
    }

    int rest(int one, int other, int k) {
        if (!isPair(one, other) || k < 0) {
            return NONE;
        }
        List<Integer> found = restsOf(one, other);
        return k < found.size() ? found.get(k) : -2;
    }

    long dry(int n, int what) {
        if (n < 0 || n > 6 || what < 0 || what > 1) {
            return NONE;
        }
        BigInteger above = BigInteger.valueOf(100 - tale.rain()).pow(n);
        BigInteger below = BigInteger.valueOf(100).pow(n);
        BigInteger common = above.gcd(below);
        return (what == 0 ? above : below).divide(common).longValueExact();
    }

    int see(int years, int parish, int row, int column, boolean is) {
        if (years < 1 || years > 60 || !isParish(parish) || !isCell(row, column) || sights.size() == 24) {
            return NONE;
        }
        sights.add(new int[] {years, parish, row, column, is ? 1 : 0});
        return sights.size() - 1;
    }

    int strike(int seen) {
        if (seen < 0 || seen >= sights.size() || sights.size() == 24) {
            return NONE;
        }
        sights.add(new int[] {seen});
        return sights.size() - 1;
    }

    boolean known(int n) {
        if (n < -1 || n > sights.size()) {
            return false;
        }
        knownBy = n;
        return true;
    }

    int known() {
        return knownBy < 0 ? sights.size() : knownBy;
    }

    boolean counts(int k) {
        for (int j = k + 1; j < known(); j++) {
            if (sights.get(j).length == 1 && sights.get(j)[0] == k && counts(j)) {
                return false;
            }
        }
        return true;
    }

    int legsOf(int child) {
        if (!isChild(child)) {
            return NONE;
        }
        int bits = 0;
        for (int legs = 1; legs <= 30; legs++) {
            boolean so = true;
            for (int k = 0; k < known() && so; k++) {
                int[] sight = sights.get(k);
                if (sight.length > 1 && counts(k)) {
                    State state = told();
                    state.legs.set(child, legs);
                    boolean was = state.asItGoes(sight[0]).cells(sight[1]).contains(100 * sight[2] + sight[3]);
                    so = was == (sight[4] == 1);
                }
            }
            bits += so ? 1 << legs - 1 : 0;
        }
        return bits;
    }

    int ask(int child, int parish, int what) {
        if (!isChild(child) || !isParish(parish) || what < 0 || what > 1) {
            return NONE;
        }
        int bits = legsOf(child);
        List<Set<Integer>> lands = new ArrayList<>();
        for (int legs = 1; legs <= 30; legs++) {
            if ((bits >> legs - 1 & 1) == 1) {
                State state = told();
                state.legs.set(child, legs);
                lands.add(state.asItGoes(20).cells(parish));
            }
        }
        int least = 99;
        int cell = 0;
        for (int row = 0; row < tale.size; row++) {
            for (int column = 0; column < tale.size; column++) {
                int yes = 0;
                for (Set<Integer> land : lands) {
                    yes += land.contains(100 * row + column) ? 1 : 0;
                }
                int worst = Math.max(yes, lands.size() - yes);
                if (worst < least) {
                    least = worst;
                    cell = 100 * row + column;
                }
            }
        }
        return what == 0 ? cell : least;
    }

    int chance(int seed, int n, int parish, int area) {
        if (seed < 0 || n < 1 || n > 99 || !isParish(parish) || area < 0 || area > 9999) {
            return NONE;
        }
        int reached = 0;
        BigInteger number = BigInteger.valueOf(seed);
        for (int k = 0; k < 10; k++) {
            State state = now.copy();
            state.number = number;
            state.byNumbers(n);
            number = state.number;
            reached += state.cells(parish).size() >= area ? 1 : 0;
        }
        return reached;
    }

    int tried(int what, int i, int n) {
        if (n < 0 || n > 200 || what < 0 || what > 4 || what == 2 && !isChild(i) || what != 2 && i != 0) {
            return NONE;
        }
        State state = now.copy();
        if (what == 2) {
            state.unled = i;
        }
        if (what == 3) {
            state.cakes.clear();
        }
        if (what == 4) {
            state.tireless = true;
            state.tired.replaceAll(tired -> 0);
        }
        for (int k = 0; k < n; k++) {
            state.year(what == 0 ? false : what == 1 ? true : wetByCall());
        }
        return state.areas();
    }

    int undo() {
        if (deeds.isEmpty()) {
            return NONE;
        }
        now = deeds.removeFirst();
        return deeds.size();
    }

    int keep() {
        image = now.copy();
        return now.year;
    }

    int back() {
        if (image == null) {
            return NONE;
        }
        now = image.copy();
        deeds.clear();
        return now.year;
    }

    int count(int what) {
        int legs = 0;
        for (int one : now.legs) {
            legs += one;
        }
        int[] all = {parishes(), children(), tale.beatings.size(), tale.size, tale.knots, now.year, now.quarrel,
            now.areas(), now.overlaps(), legs, sights.size(), known(), deeds.size()};
        return what >= 0 && what < all.length ? all[what] : NONE;
    }
}
