import java.util.ArrayList;
import java.util.Arrays;
import java.util.LinkedHashMap;
import java.util.List;
import java.util.Map;
import java.util.Random;
import java.util.TreeMap;
import java.util.TreeSet;

/**
 * Long runs of calls with fixed seeds, each answer compared with that of a second committee, which is
 * written from the document in another way: plain lists, trees of conditions, whole searches.
 */
public final class RandomRunsTest {
    private static final int NONE = -1;

    private RandomRunsTest() {
    }

    public static void main(String[] args) {
        int seeds = args.length > 0 ? Integer.parseInt(args[0]) : 400;
        int from = args.length > 1 ? Integer.parseInt(args[1]) : 0;
        int wrong = 0;
        Map<String, Integer> seen = new TreeMap<>();
        for (int seed = from; seed < from + seeds && wrong < 5; seed++) {
            Run run = new Run(seed, seen);
            if (!run.play()) {
                wrong++;
            }
        }
        if (args.length > 0) {
            System.out.println(seen);
        }
        System.out.println(wrong == 0 ? "random runs: all answers are alike" : "random runs: " + wrong + " differ");
        if (wrong != 0) {
            System.exit(1);
        }
    }

    /** One run: a committee, its double, and calls that are likely to be taken. */
    private static final class Run {
        final int seed;
        final Random dice;
        final Map<String, Integer> seen;
        final VerseCommittee it = new VerseCommittee();
        final Double twin = new Double();
        final List<String> calls = new ArrayList<>();
        final int style;
        int left = 512;
        boolean good = true;

        Run(int seed, Map<String, Integer> seen) {
            this.seed = seed;
            this.dice = new Random(seed);
            this.seen = seen;
            this.style = dice.nextInt(4);
        }

        int r(int n) {
            return dice.nextInt(n);
        }

        boolean chance(int hundredths) {
            return r(100) < hundredths;
        }

        /** Mostly 0 to n - 1, at times something beyond it. */
        int near(int n) {
            if (chance(3)) {
                int[] odd = {-1, -2, n, n + 1, Integer.MIN_VALUE, Integer.MAX_VALUE, 1000000};
                return odd[r(odd.length)];
            }
            return n <= 0 ? 0 : r(n);
        }

        boolean play() {
            try {
                setUp();
                while (left > 0 && good) {
                    step();
                }
            } catch (RuntimeException e) {
                good = false;
                System.out.println("seed " + seed + " threw " + e + " at " + e.getStackTrace()[0]);
                e.printStackTrace(System.out);
                tell();
            }
            return good;
        }

        void same(String call, int got, int due) {
            left--;
            calls.add(call + " = " + got);
            String name = call.substring(0, call.indexOf('('));
            seen.merge(name + (due == -1 ? " none" : due == -2 ? " -2" : due < 0 ? " fault" : " ok"), 1, Integer::sum);
            if (got != due && good && left >= 0) {
                good = false;
                System.out.println("seed " + seed + ": " + call + " answered " + got + ", due is " + due);
                tell();
            }
        }

        void same(String call, boolean got, boolean due) {
            same(call, got ? 1 : -1, due ? 1 : -1);
        }

        void tell() {
            for (String s : calls) {
                System.out.println("  " + s);
            }
        }

        void feed(int[] bytes) {
            for (int i = 0; i < bytes.length; i += 20) {
                int[] five = new int[5];
                for (int k = 0; k < 20; k++) {
                    int b = i + k < bytes.length ? bytes[i + k] : r(256);
                    five[k / 4] = five[k / 4] << 8 | b;
                }
                same("feed(" + Arrays.toString(five) + ")", it.feed(five[0], five[1], five[2], five[3], five[4]),
                        twin.feed(five));
            }
        }

        /** Puts bytes at the head of the tape: what stands on it is used up first. */
        void lay(int[] bytes) {
            if (!twin.tape.isEmpty()) {
                same("check(0)", it.check(0), twin.check(0));
            }
            feed(bytes);
        }

        void setUp() {
            int words = 3 + r(6);
            for (int i = 0; i < words; i++) {
                word();
            }
            int companies = 1 + r(4);
            for (int i = 0; i < companies; i++) {
                company();
            }
            int scholars = 2 + r(6);
            for (int i = 0; i < scholars; i++) {
                scholar();
            }
            centre();
            if (chance(70)) {
                lawOf("v0." + r(chance(50) ? 1 : 60) + ";v1." + r(chance(50) ? 1 : 60) + (chance(60) ? ";s" : ""));
            }
            int verses = 2 + r(4);
            for (int i = 0; i < verses; i++) {
                verse();
                source(i);
            }
        }

        void step() {
            int kind = r(100);
            if (kind < 4) {
                int day = chance(90) ? twin.day + r(4) : near(4000);
                if (day > twin.day + 200 && day < 4000) {
                    day = twin.day + 1;
                }
                same("now(" + day + ")", it.now(day), twin.now(day));
            } else if (kind < 7) {
                grow();
            } else if (kind < 12) {
                source(near(twin.verses.size()));
            } else if (kind < 20) {
                rules();
            } else if (kind < 32) {
                render();
            } else if (kind < 45) {
                votes();
            } else if (kind < 46) {
                if (chance(40)) {
                    int s = near(twin.scholars.size());
                    same("voids(" + s + ")", it.voids(s), twin.voids(s));
                }
            } else if (kind < 50) {
                options();
            } else if (kind < 53) {
                int k = near(10);
                int v = near(Math.min(3, twin.verses.size()));
                int t = near(chance(50) ? 2 : 8);
                boolean right = chance(40);
                same("reads(" + k + "," + v + "," + t + "," + right + ")", it.reads(k, v, t, right),
                        twin.reads(k, v, t, right));
            } else if (kind < 55) {
                check();
            } else if (kind < 57) {
                spell();
            } else {
                ask();
            }
        }

        void grow() {
            switch (r(6)) {
                case 0 -> word();
                case 1 -> company();
                case 2 -> scholar();
                case 3 -> centre();
                default -> {
                    verse();
                    source(twin.verses.size() - 1);
                }
            }
        }

        void word() {
            int n = chance(5) ? near(14) : 1 + r(5);
            int[] letters = new int[Math.max(1, Math.min(14, n))];
            for (int i = 0; i < letters.length; i++) {
                letters[i] = chance(60) ? "aeiouy".charAt(r(6)) : 'a' + r(26);
                if (chance(1)) {
                    letters[i] = r(256);
                }
            }
            lay(letters);
            same("word(" + n + ")", it.word(n), twin.word(n));
        }

        void spell() {
            int n = chance(10) ? near(14) : 1 + r(12);
            int[] letters = new int[12];
            for (int i = 0; i < letters.length; i++) {
                letters[i] = chance(1) ? r(256) : 'a' + r(26);
            }
            lay(letters);
            int e = near(4);
            int w = near(twin.words.size());
            same("spell(" + e + "," + w + "," + n + ")", it.spell(e, w, n), twin.spell(e, w, n));
        }

        void company() {
            int books = chance(3) ? near(256) : r(256) | (style != 1 ? 7 : 0);
            int rate = chance(10) ? 0 : chance(5) ? near(100) : 1 + r(4);
            same("company(" + books + "," + rate + ")", it.company(books, rate), twin.company(books, rate));
        }

        void centre() {
            int rate = chance(5) ? near(100) : r(9);
            same("centre(" + rate + ")", it.centre(rate), twin.centre(rate));
        }

        void scholar() {
            int c = near(chance(70) ? Math.min(1, twin.companies.size()) : twin.companies.size());
            boolean centre = chance(50);
            same("scholar(" + c + "," + centre + ")", it.scholar(c, centre), twin.scholar(c, centre));
        }

        void verse() {
            int book = near(style == 1 ? 8 : 3);
            int measure = chance(50) ? 0 : chance(10) ? near(41) : 1 + r(6);
            same("verse(" + book + "," + measure + ")", it.verse(book, measure), twin.verse(book, measure));
        }

        int tokenByte() {
            return chance(1) ? r(256) : 4 * (style >= 2 ? r(2) : r(5)) + (chance(70) ? 0 : r(4));
        }

        void source(int v) {
            int n = chance(3) ? near(10) : 1 + r(chance(50) ? 3 : 8);
            int[] tokens = new int[8];
            for (int i = 0; i < 8; i++) {
                tokens[i] = tokenByte();
            }
            lay(tokens);
            int c = near(3);
            same("source(" + v + "," + c + "," + n + ")", it.source(v, c, n), twin.source(v, c, n));
        }

        String text() {
            StringBuilder b = new StringBuilder();
            int clauses = chance(3) ? 15 + r(3) : 1 + r(4);
            for (int i = 0; i < clauses && b.length() < 150; i++) {
                b.append(i > 0 ? ";" : "").append(clauses > 10 ? "s" : clause());
            }
            if (chance(25)) {
                String odd = "wskvo;.=*()[]!&|<>+-/%0123456789vbmncd ";
                int p = r(b.length());
                int how = r(4);
                if (how == 0) {
                    b.setCharAt(p, odd.charAt(r(odd.length())));
                } else if (how == 1) {
                    b.insert(p, odd.charAt(r(odd.length())));
                } else if (how == 2) {
                    b.deleteCharAt(p);
                } else {
                    b.setLength(p + 1);
                }
            }
            if (b.length() > 160) {
                b.setLength(160);
            }
            return b.length() == 0 ? "s" : b.toString();
        }

        String clause() {
            int kind = r(100);
            if (kind < 50) {
                String form = chance(50) ? "*" : "" + r(chance(5) ? 10 : 4);
                int sign = chance(2) ? r(100) : style == 2 ? r(2) : r(5);
                int w = chance(2) ? r(100) : r(4);
                return "w" + (chance(3) ? "0" : "") + sign + "." + form + "=" + w + tail();
            }
            if (kind < 75) {
                return "s" + tail();
            }
            if (kind < 83) {
                return "k" + new String[] {"012", "021", "102", "120", "201", "210", "110", "013", "01"}[r(chance(90) ? 6 : 9)];
            }
            if (kind < 93) {
                return "v" + r(2) + "." + (chance(5) ? r(200) : chance(40) ? 0 : r(101));
            }
            return "o" + (chance(10) ? r(200000) : r(4));
        }

        String tail() {
            return chance(45) ? "" : "(" + condition(0) + ")";
        }

        String condition(int depth) {
            StringBuilder b = new StringBuilder(piece(depth));
            int more = chance(60) ? 0 : 1 + r(2);
            for (int i = 0; i < more; i++) {
                b.append(chance(50) ? '|' : '&').append(piece(depth));
            }
            return b.toString();
        }

        String piece(int depth) {
            if (depth < 8 && chance(15)) {
                return "!" + piece(depth + 1);
            }
            if (depth < 8 && chance(15)) {
                return "(" + condition(depth + 1) + ")";
            }
            return sum(depth) + "<>=".charAt(r(3)) + sum(depth);
        }

        String sum(int depth) {
            StringBuilder b = new StringBuilder(factor(depth));
            int more = chance(60) ? 0 : 1 + r(3);
            for (int i = 0; i < more; i++) {
                b.append("+-*/%".charAt(r(5))).append(factor(depth));
            }
            return b.toString();
        }

        String factor(int depth) {
            if (depth < 8 && chance(10)) {
                return "[" + sum(depth + 1) + "]";
            }
            if (chance(60)) {
                return "" + "vbmncd".charAt(r(6));
            }
            return "" + (chance(5) ? r(1000000) : chance(10) ? 90000 + r(10000) : r(6));
        }

        void rules() {
            lawOf(text());
        }

        void lawOf(String text) {
            int[] bytes = new int[text.length()];
            for (int i = 0; i < bytes.length; i++) {
                bytes[i] = text.charAt(i);
            }
            lay(bytes);
            int c = chance(60) ? NONE : near(twin.companies.size());
            int from = chance(3) ? near(4000) : chance(70) ? 0 : twin.day + r(3);
            int to = chance(3) ? near(4000) : chance(70) ? 3999 : from + r(10);
            int n = chance(2) ? near(161) : bytes.length;
            same("rules(" + c + "," + from + "," + to + "," + n + ") of " + text, it.rules(c, from, to, n),
                    twin.rules(c, from, to, n));
        }

        void render() {
            int v = near(twin.verses.size());
            int s = near(twin.scholars.size());
            int n = chance(3) ? near(14) : 1 + r(5);
            int tokens = v >= 0 && v < twin.verses.size() ? twin.sourceRow(v, twin.day).length : 0;
            int[] bytes = new int[24];
            for (int i = 0; i < 12; i++) {
                bytes[2 * i] = chance(1) ? r(256) : r(Math.max(1, Math.min(chance(80) ? 3 : 80, twin.words.size())));
                bytes[2 * i + 1] = chance(1) ? r(10) : chance(10) ? 8 : r(Math.max(1, tokens));
            }
            lay(bytes);
            same("render(" + s + "," + v + "," + n + ") of " + Arrays.toString(bytes), it.render(s, v, n), twin.render(s, v, n));
        }

        int likelyRendering() {
            List<Integer> open = new ArrayList<>();
            for (int i = 0; i < twin.renderings.size(); i++) {
                if (twin.renderings.get(i).state < 2) {
                    open.add(i);
                }
            }
            return open.isEmpty() || chance(10) ? near(twin.renderings.size()) : open.get(r(open.size()));
        }

        void votes() {
            int x = likelyRendering();
            if (chance(60)) {
                int rounds = 1 + r(3);
                for (int i = 0; i < rounds; i++) {
                    int s = likelyElector(x);
                    boolean yes = chance(80);
                    same("vote(" + s + "," + x + "," + yes + ")", it.vote(s, x, yes), twin.vote(s, x, yes));
                }
            }
            same("close(" + x + ")", it.close(x), twin.close(x));
            for (int what = 2; what < 10; what++) {
                if (chance(20)) {
                    same("look(" + x + "," + what + ")", it.look(x, what), twin.look(x, what));
                }
            }
        }

        int likelyElector(int x) {
            if (x < 0 || x >= twin.renderings.size() || twin.renderings.get(x).state > 1 || chance(10)) {
                return near(twin.scholars.size());
            }
            List<Integer> list = new ArrayList<>(twin.electors(twin.renderings.get(x)));
            return list.isEmpty() ? near(twin.scholars.size()) : list.get(r(list.size()));
        }

        void options() {
            if (chance(25)) {
                int a = near(chance(90) ? 4 : 40);
                int b = near(chance(90) ? 4 : 40);
                same("apart(" + a + "," + b + ")", it.apart(a, b), twin.apart(a, b));
            } else {
                int s = near(chance(90) ? 5 : 40);
                int w = near(Math.min(4, twin.words.size()));
                same("option(" + s + "," + w + ")", it.option(s, w), twin.option(s, w));
            }
        }

        void check() {
            List<Integer> bytes = new ArrayList<>();
            for (int v = 0; v < twin.verses.size(); v++) {
                if (twin.verses.get(v).fixed != NONE) {
                    bytes.add(v);
                    bytes.add(twin.verses.get(v).fixed);
                }
            }
            int n = bytes.size() / 2 + (chance(80) ? 0 : r(3) - 1);
            int[] row = new int[Math.max(20, bytes.size())];
            for (int i = 0; i < bytes.size(); i++) {
                row[i] = chance(3) ? r(256) : bytes.get(i);
            }
            lay(row);
            n = chance(3) ? near(61) : n;
            same("check(" + n + ")", it.check(n), twin.check(n));
        }

        void ask() {
            int v = near(twin.verses.size());
            int w;
            int x = near(twin.renderings.size());
            int day = chance(70) ? near(twin.day + 2) : near(4000);
            switch (r(24)) {
                case 0 -> {
                    w = near(twin.words.size());
                    same("syllables(" + w + ")", it.syllables(w), twin.syllables(w));
                }
                case 1, 2 -> {
                    int i = near(twin.laws.size());
                    int j = near(i >= 0 && i < twin.laws.size() ? twin.laws.get(i).clauses.size() : 3);
                    same("holds(" + i + "," + j + "," + v + "," + day + ")", it.holds(i, j, v, day), twin.holds(i, j, v, day));
                }
                case 3 -> {
                    w = near(6);
                    same("asks(" + v + "," + day + "," + w + ")", it.asks(v, day, w), twin.asks(v, day, w));
                }
                case 4 -> {
                    int c = near(3);
                    w = near(8);
                    same("token(" + v + "," + c + "," + w + ")", it.token(v, c, w), twin.token(v, c, w));
                }
                case 5 -> {
                    int a = near(3);
                    int b = near(3);
                    same("differ(" + v + "," + a + "," + b + ")", it.differ(v, a, b), twin.differ(v, a, b));
                }
                case 6 -> {
                    v = likelyFixed(v);
                    same("fixed(" + v + ")", it.fixed(v), twin.fixed(v));
                }
                case 7 -> {
                    v = likelyFixed(v);
                    same("fixedOn(" + v + "," + day + ")", it.fixedOn(v, day), twin.fixedOn(v, day));
                }
                case 8 -> same("breaches(" + x + ")", it.breaches(x), twin.breaches(x));
                case 9, 10 -> {
                    int i = near(chance(60) ? 3 : 12);
                    w = near(3);
                    same("breach(" + x + "," + i + "," + w + ")", it.breach(x, i, w), twin.breach(x, i, w));
                }
                case 11, 12 -> {
                    int i = near(chance(60) ? 3 : 12);
                    w = near(5);
                    same("quarrel(" + v + "," + i + "," + w + ")", it.quarrel(v, i, w), twin.quarrel(v, i, w));
                }
                case 13, 14 -> {
                    int i = near(chance(80) ? 2 : 12);
                    w = near(4);
                    same("unlike(" + i + "," + w + ")", it.unlike(i, w), twin.unlike(i, w));
                }
                case 15 -> {
                    int choice = chance(10) ? near(4096) : likelyChoice();
                    same("cost(" + choice + ")", it.cost(choice), twin.cost(choice));
                }
                case 16 -> same("one()", it.one(), twin.one());
                case 17 -> {
                    w = near(3);
                    same("line(" + w + ")", it.line(w), twin.line(w));
                }
                case 18 -> same("missed(" + v + ")", it.missed(v), twin.missed(v));
                case 19 -> {
                    int a = chance(80) ? near(twin.day + 1) : near(4000);
                    int b = chance(80) ? near(twin.day + 1) : near(4000);
                    v = likelyFixed(v);
                    same("changes(" + v + "," + a + "," + b + ")", it.changes(v, a, b), twin.changes(v, a, b));
                }
                case 20 -> {
                    int e = near(4);
                    int i = near(chance(70) ? 12 : 50);
                    v = likelyFixed(v);
                    same("printed(" + e + "," + v + "," + i + ")", it.printed(e, v, i), twin.printed(e, v, i));
                }
                case 21 -> {
                    w = near(8) - 1;
                    same("plan(" + w + ")", it.plan(w), twin.plan(w));
                    int row = chance(10) ? near(46656) : likelyRow();
                    same("judge(" + row + ")", it.judge(row), twin.judge(row));
                }
                case 22 -> {
                    w = chance(50) ? near(10) : near(46);
                    same("look(" + x + "," + w + ")", it.look(x, w), twin.look(x, w));
                }
                default -> {
                    w = near(26);
                    same("count(" + w + ")", it.count(w), twin.count(w));
                }
            }
        }

        int likelyFixed(int v) {
            List<Integer> list = new ArrayList<>();
            for (int k = 0; k < twin.verses.size(); k++) {
                if (twin.verses.get(k).fixed != NONE) {
                    list.add(k);
                }
            }
            return list.isEmpty() || chance(30) ? v : list.get(r(list.size()));
        }

        int likelyChoice() {
            int choice = 0;
            int place = 1;
            for (List<Integer> words : twin.options.values()) {
                choice += place * r(words.size());
                place *= 4;
            }
            return choice;
        }

        int likelyRow() {
            int row = 0;
            int place = 1;
            for (int k = 0; k < twin.openBooks().size(); k++) {
                row += place * r(Math.max(1, twin.companies.size()));
                place *= 6;
            }
            return row;
        }
    }

    // ------------------------------------------------------------------ the double

    private static final class Verse {
        int book;
        int measure;
        int fixed = NONE;
        int[][] copies = new int[3][];
        Map<Integer, Integer> ends = new TreeMap<>();
        List<Map<Integer, Boolean>> readers = new ArrayList<>();
    }

    private static final class Company {
        int books;
        int rate;
    }

    private static final class Scholar {
        int company;
        boolean centre;
        boolean gone;
    }

    private static final class Refused extends RuntimeException {
        private static final long serialVersionUID = 1L;
    }

    private static final class Fault extends RuntimeException {
        private static final long serialVersionUID = 1L;
        final int told;

        Fault(int number, int place) {
            told = -1000 * number - place;
        }
    }

    private static final class Place {
        int verse;
        int book;
        int measure;
        int tokens;
        int company;
        int day;
    }

    private interface Test {
        boolean ask(Place p);
    }

    private interface Value {
        int reckon(Place p);
    }

    private static final class Clause {
        char kind;
        int sign;
        int form;
        int word;
        int stage;
        int number;
        String ranks;
        Test test;

        boolean speaksOf(int token) {
            return token >> 2 == sign && (form == 4 || (token & 3) == form);
        }

        int verdict(Place p) {
            try {
                return test == null || test.ask(p) ? 1 : 0;
            } catch (Refused e) {
                return 2;
            }
        }
    }

    private static final class Law {
        int company;
        int from;
        int to;
        List<Clause> clauses;
    }

    private static final class Ballot {
        Map<Integer, Boolean> votes = new TreeMap<>();
        TreeSet<Integer> electors;
        Map<Integer, Boolean> counted;
        int needed;

        int ayes() {
            int n = 0;
            for (boolean b : counted.values()) {
                n += b ? 1 : 0;
            }
            return n;
        }

        boolean carries() {
            return !electors.isEmpty() && ayes() / (double) electors.size() >= needed / 100.0 - 1e-9;
        }
    }

    private static final class Made {
        int scholar;
        int verse;
        int copy;
        int[] tokens;
        List<int[]> slots = new ArrayList<>();
        int state;
        int madeDay;
        int fixedDay = NONE;
        Ballot[] ballots = {new Ballot(), new Ballot()};

        List<Integer> wordsOf(int token) {
            List<Integer> row = new ArrayList<>();
            for (int[] s : slots) {
                if (s[1] == token) {
                    row.add(s[0]);
                }
            }
            return row;
        }
    }

    /** Reads RULES into trees. */
    private static final class Reader {
        final String text;
        int at;
        int open;

        Reader(String text) {
            this.text = text;
        }

        char now() {
            return at < text.length() ? text.charAt(at) : '\n';
        }

        boolean is(String set) {
            return set.indexOf(now()) >= 0;
        }

        char take(String set) {
            if (!is(set)) {
                throw new Fault(1, at);
            }
            return text.charAt(at++);
        }

        int number(int most) {
            int first = at;
            StringBuilder digits = new StringBuilder();
            digits.append(take("0123456789"));
            while (is("0123456789")) {
                if (digits.length() == 5) {
                    throw new Fault(2, at);
                }
                digits.append(take("0123456789"));
            }
            int value = Integer.parseInt(digits.toString());
            if (value > most) {
                throw new Fault(3, first);
            }
            return value;
        }

        List<Clause> all() {
            List<Clause> list = new ArrayList<>();
            do {
                if (is("wskvo") && list.size() == 16) {
                    throw new Fault(4, at);
                }
                list.add(clause());
            } while (at < text.length() && take(";") == ';');
            return list;
        }

        Clause clause() {
            Clause c = new Clause();
            c.kind = take("wskvo");
            if (c.kind == 'w') {
                c.sign = number(39);
                take(".");
                char f = take("0123*");
                c.form = f == '*' ? 4 : f - '0';
                take("=");
                c.word = number(79);
            } else if (c.kind == 'k') {
                StringBuilder b = new StringBuilder();
                for (int i = 0; i < 3; i++) {
                    int place = at;
                    char d = take("012");
                    if (b.indexOf("" + d) >= 0) {
                        throw new Fault(6, place);
                    }
                    b.append(d);
                }
                c.ranks = b.toString();
            } else if (c.kind == 'v') {
                c.stage = take("01") - '0';
                take(".");
                c.number = number(100);
            } else if (c.kind == 'o') {
                c.number = number(99999);
            }
            if ((c.kind == 'w' || c.kind == 's') && is("(")) {
                c.test = bracket();
            }
            return c;
        }

        void opens(String sign) {
            int place = at;
            take(sign);
            if (++open > 6) {
                throw new Fault(5, place);
            }
        }

        Test bracket() {
            opens("(");
            Test t = condition();
            take(")");
            open--;
            return t;
        }

        Test condition() {
            List<List<Test>> parts = new ArrayList<>();
            parts.add(new ArrayList<>(List.of(piece())));
            while (is("|&")) {
                if (take("|&") == '|') {
                    parts.add(new ArrayList<>());
                }
                parts.get(parts.size() - 1).add(piece());
            }
            return p -> parts.stream().anyMatch(part -> part.stream().allMatch(t -> t.ask(p)));
        }

        Test piece() {
            if (is("!")) {
                opens("!");
                Test t = piece();
                open--;
                return p -> !t.ask(p);
            }
            if (is("(")) {
                return bracket();
            }
            Value left = sum();
            char how = take("<>=");
            Value right = sum();
            return p -> {
                int order = Integer.compare(left.reckon(p), right.reckon(p));
                return how == '<' ? order < 0 : how == '>' ? order > 0 : order == 0;
            };
        }

        Value sum() {
            Value value = term();
            while (is("+-")) {
                int factor = take("+-") == '+' ? 1 : -1;
                Value a = value;
                Value b = term();
                value = p -> (int) ((long) a.reckon(p) + (long) factor * b.reckon(p));
            }
            return value;
        }

        Value term() {
            Value value = factor();
            while (is("*/%")) {
                char how = take("*/%");
                Value a = value;
                Value b = factor();
                value = p -> {
                    long x = a.reckon(p);
                    long y = b.reckon(p);
                    if (how != '*' && y == 0) {
                        throw new Refused();
                    }
                    return (int) (how == '*' ? x * y : how == '/' ? x / y : x % y);
                };
            }
            return value;
        }

        Value factor() {
            if (is("[")) {
                opens("[");
                Value v = sum();
                take("]");
                open--;
                return v;
            }
            if (is("0123456789")) {
                int n = number(99999);
                return p -> n;
            }
            char letter = take("vbmncd");
            return p -> switch (letter) {
                case 'v' -> p.verse;
                case 'b' -> p.book;
                case 'm' -> p.measure;
                case 'n' -> p.tokens;
                case 'c' -> p.company;
                default -> p.day;
            };
        }
    }

    /** The second committee. */
    private static final class Double {
        int day;
        int centreRate;
        List<Integer> tape = new ArrayList<>();
        List<Verse> verses = new ArrayList<>();
        List<String> words = new ArrayList<>();
        Map<String, String> spelled = new TreeMap<>();
        List<Company> companies = new ArrayList<>();
        List<Scholar> scholars = new ArrayList<>();
        List<Law> laws = new ArrayList<>();
        List<Made> renderings = new ArrayList<>();
        Map<Integer, List<Integer>> options = new LinkedHashMap<>();
        TreeSet<String> apart = new TreeSet<>();

        static boolean in(int x, int n) {
            return x >= 0 && x < n;
        }

        boolean taped(long n, int least, int most) {
            return n >= least && n <= most && n <= tape.size();
        }

        String head(int n) {
            StringBuilder b = new StringBuilder();
            for (int i = 0; i < n; i++) {
                b.append((char) (int) tape.get(i));
            }
            return b.toString();
        }

        boolean now(int d) {
            if (!in(d, 4000) || d < day) {
                return false;
            }
            for (Verse v : verses) {
                for (int k = day; k < d; k++) {
                    v.ends.put(k, v.fixed);
                }
            }
            day = d;
            return true;
        }

        int feed(int[] five) {
            if (tape.size() > 180) {
                return NONE;
            }
            for (int x : five) {
                tape.add(x >>> 24);
                tape.add(x >> 16 & 255);
                tape.add(x >> 8 & 255);
                tape.add(x & 255);
            }
            return tape.size();
        }

        int verse(int book, int measure) {
            if (!in(book, 8) || !in(measure, 41) || verses.size() == 60) {
                return NONE;
            }
            Verse v = new Verse();
            v.book = book;
            v.measure = measure;
            for (int i = 0; i < 8; i++) {
                v.readers.add(new TreeMap<>());
            }
            verses.add(v);
            return verses.size() - 1;
        }

        boolean source(int v, int c, int n) {
            if (!in(v, verses.size()) || !in(c, 3) || !taped(n, 1, 8)) {
                return false;
            }
            int[] row = new int[n];
            for (int i = 0; i < n; i++) {
                row[i] = tape.get(i);
                if (row[i] / 4 > 39) {
                    return false;
                }
            }
            verses.get(v).copies[c] = row;
            tape.clear();
            return true;
        }

        int word(int n) {
            if (!taped(n, 1, 12) || words.size() == 80 || !head(n).matches("[a-z]+") || words.contains(head(n))) {
                return NONE;
            }
            words.add(head(n));
            tape.clear();
            return words.size() - 1;
        }

        boolean spell(int e, int w, int n) {
            if (!in(e, 4) || !in(w, words.size()) || !taped(n, 1, 12) || !head(n).matches("[a-z]+")) {
                return false;
            }
            spelled.put(e + ":" + w, head(n));
            tape.clear();
            return true;
        }

        int sound(int w) {
            int rows = 0;
            for (String s : words.get(w).split("[^aeiouy]+")) {
                rows += s.isEmpty() ? 0 : 1;
            }
            return Math.max(rows, 1);
        }

        int syllables(int w) {
            return in(w, words.size()) ? sound(w) : NONE;
        }

        int company(int books, int rate) {
            if (!in(books, 256) || !in(rate, 100) || companies.size() == 6) {
                return NONE;
            }
            Company c = new Company();
            c.books = books;
            c.rate = rate;
            companies.add(c);
            return companies.size() - 1;
        }

        boolean centre(int rate) {
            if (in(rate, 100)) {
                centreRate = rate;
            }
            return in(rate, 100);
        }

        int scholar(int company, boolean centre) {
            if (!in(company, companies.size()) || scholars.size() == 24) {
                return NONE;
            }
            Scholar s = new Scholar();
            s.company = company;
            s.centre = centre;
            scholars.add(s);
            return scholars.size() - 1;
        }

        int rules(int company, int from, int to, int n) {
            if (company != NONE && !in(company, companies.size())) {
                return NONE;
            }
            if (!in(from, 4000) || !in(to, 4000) || from > to || laws.size() == 20 || !taped(n, 1, 160)) {
                return NONE;
            }
            String text = head(n);
            tape.clear();
            Law law = new Law();
            try {
                law.clauses = new Reader(text).all();
            } catch (Fault f) {
                return f.told;
            }
            law.company = company;
            law.from = from;
            law.to = to;
            laws.add(law);
            return laws.size() - 1;
        }

        int companyOf(int v) {
            for (int c = 0; c < companies.size(); c++) {
                if ((companies.get(c).books >> verses.get(v).book & 1) == 1) {
                    return c;
                }
            }
            return NONE;
        }

        boolean force(Law law, int v, int d) {
            return law.from <= d && d <= law.to && (law.company == NONE || law.company == companyOf(v));
        }

        Clause last(int v, int d, char kind, int stage) {
            Clause found = null;
            for (Law law : laws) {
                if (force(law, v, d)) {
                    for (Clause c : law.clauses) {
                        if (c.kind == kind && c.stage == stage) {
                            found = c;
                        }
                    }
                }
            }
            return found;
        }

        int sourceCopy(int v, int d) {
            Clause k = last(v, d, 'k', 0);
            for (char c : (k == null ? "012" : k.ranks).toCharArray()) {
                if (verses.get(v).copies[c - '0'] != null) {
                    return c - '0';
                }
            }
            return NONE;
        }

        int[] sourceRow(int v, int d) {
            int c = sourceCopy(v, d);
            return c == NONE ? new int[0] : verses.get(v).copies[c];
        }

        Place place(int v, int d) {
            Place p = new Place();
            p.verse = v;
            p.book = verses.get(v).book;
            p.measure = verses.get(v).measure;
            p.tokens = sourceRow(v, d).length;
            p.company = companyOf(v);
            p.day = d;
            return p;
        }

        int holds(int i, int j, int v, int d) {
            if (!in(i, laws.size()) || !in(j, laws.get(i).clauses.size()) || !in(v, verses.size()) || !in(d, 4000)) {
                return NONE;
            }
            return laws.get(i).clauses.get(j).verdict(place(v, d));
        }

        int asks(int v, int d, int what) {
            if (!in(v, verses.size()) || !in(d, 4000)) {
                return NONE;
            }
            Clause c;
            switch (what) {
                case 0:
                case 1:
                    c = last(v, d, 'v', what);
                    return c == null ? 50 : c.number;
                case 2:
                    c = last(v, d, 'o', 0);
                    return c == null ? 0 : c.number;
                case 3:
                    return sourceCopy(v, d);
                case 4:
                    return sourceRow(v, d).length;
                case 5:
                    return companyOf(v);
                default:
                    return NONE;
            }
        }

        int token(int v, int c, int i) {
            if (!in(v, verses.size()) || !in(c, 3) || verses.get(v).copies[c] == null) {
                return NONE;
            }
            int[] row = verses.get(v).copies[c];
            return in(i, row.length) ? row[i] : NONE;
        }

        static int far(int[] a, int[] b) {
            int[][] t = new int[a.length + 1][b.length + 1];
            for (int i = a.length; i >= 0; i--) {
                for (int j = b.length; j >= 0; j--) {
                    if (i == a.length || j == b.length) {
                        t[i][j] = a.length - i + b.length - j;
                    } else if (a[i] == b[j]) {
                        t[i][j] = t[i + 1][j + 1];
                    } else {
                        t[i][j] = 1 + Math.min(t[i + 1][j + 1], Math.min(t[i + 1][j], t[i][j + 1]));
                    }
                }
            }
            return t[0][0];
        }

        int differ(int v, int a, int b) {
            if (!in(v, verses.size()) || !in(a, 3) || !in(b, 3)) {
                return NONE;
            }
            int[] x = verses.get(v).copies[a];
            int[] y = verses.get(v).copies[b];
            return x == null || y == null ? NONE : far(x, y);
        }

        int render(int s, int v, int n) {
            if (!in(s, scholars.size()) || !in(v, verses.size()) || scholars.get(s).gone || renderings.size() == 200) {
                return NONE;
            }
            if (!taped(2L * n, 2, 24) || sourceCopy(v, day) == NONE) {
                return NONE;
            }
            Made m = new Made();
            m.scholar = s;
            m.verse = v;
            m.copy = sourceCopy(v, day);
            m.tokens = sourceRow(v, day).clone();
            m.madeDay = day;
            for (int i = 0; i < n; i++) {
                int w = tape.get(2 * i);
                int t = tape.get(2 * i + 1);
                if (w >= words.size() || t > 8 || (t < 8 && t >= m.tokens.length)) {
                    return NONE;
                }
                m.slots.add(new int[] {w, t});
            }
            renderings.add(m);
            tape.clear();
            return renderings.size() - 1;
        }

        TreeSet<Integer> electors(Made m) {
            TreeSet<Integer> set = new TreeSet<>();
            for (int s = 0; s < scholars.size(); s++) {
                Scholar x = scholars.get(s);
                if (!x.gone && (m.state == 0 ? x.company == companyOf(m.verse) : x.centre)) {
                    set.add(s);
                }
            }
            return set;
        }

        boolean vote(int s, int r, boolean yes) {
            if (!in(r, renderings.size()) || renderings.get(r).state > 1 || !electors(renderings.get(r)).contains(s)) {
                return false;
            }
            renderings.get(r).ballots[renderings.get(r).state].votes.put(s, yes);
            return true;
        }

        int close(int r) {
            if (!in(r, renderings.size()) || renderings.get(r).state > 1) {
                return NONE;
            }
            Made m = renderings.get(r);
            Ballot b = new Ballot();
            b.electors = electors(m);
            if (b.electors.isEmpty()) {
                return NONE;
            }
            b.votes = m.ballots[m.state].votes;
            b.counted = new TreeMap<>(b.votes);
            b.counted.keySet().retainAll(b.electors);
            b.needed = asks(m.verse, day, m.state);
            Verse v = verses.get(m.verse);
            if (b.carries() && m.state == 1 && v.fixed != NONE) {
                Made old = renderings.get(v.fixed);
                if (day - old.fixedDay <= asks(m.verse, day, 2)) {
                    return NONE;
                }
                old.state = 4;
            }
            m.ballots[m.state] = b;
            m.state = b.carries() ? m.state + 1 : 3;
            if (m.state == 2) {
                v.fixed = r;
                m.fixedDay = day;
            }
            return m.state;
        }

        boolean falls(Ballot b, int s) {
            if (!b.counted.containsKey(s)) {
                return false;
            }
            b.counted.remove(s);
            b.electors.remove(s);
            return !b.carries();
        }

        void reopen(Ballot b) {
            b.counted = null;
            b.electors = null;
        }

        int voids(int s) {
            if (!in(s, scholars.size()) || scholars.get(s).gone) {
                return NONE;
            }
            scholars.get(s).gone = true;
            int back = 0;
            for (Made m : renderings) {
                if (m.state != 1 && m.state != 2) {
                    continue;
                }
                int next = m.state;
                if (falls(m.ballots[0], s)) {
                    next = 0;
                } else if (m.state == 2 && falls(m.ballots[1], s)) {
                    next = 1;
                }
                if (next == m.state) {
                    continue;
                }
                back++;
                if (m.state == 2) {
                    verses.get(m.verse).fixed = NONE;
                }
                m.state = next;
                m.fixedDay = NONE;
                reopen(m.ballots[1]);
                if (next == 0) {
                    reopen(m.ballots[0]);
                }
            }
            return back;
        }

        int fixed(int v) {
            return in(v, verses.size()) ? verses.get(v).fixed : NONE;
        }

        int fixedOn(int v, int d) {
            if (!in(v, verses.size()) || !in(d, day + 1)) {
                return NONE;
            }
            return d == day ? verses.get(v).fixed : verses.get(v).ends.getOrDefault(d, NONE);
        }

        List<int[]> allBreaches(int r) {
            Made m = renderings.get(r);
            List<int[]> list = new ArrayList<>();
            for (int i = 0; i < laws.size(); i++) {
                for (int j = 0; j < laws.get(i).clauses.size(); j++) {
                    Clause c = laws.get(i).clauses.get(j);
                    if (c.kind != 'w' || !force(laws.get(i), m.verse, day) || c.verdict(place(m.verse, day)) != 1) {
                        continue;
                    }
                    for (int t = 0; t < m.tokens.length; t++) {
                        TreeSet<Integer> set = new TreeSet<>(m.wordsOf(t));
                        if (c.speaksOf(m.tokens[t]) && !set.equals(new TreeSet<>(List.of(c.word)))) {
                            list.add(new int[] {i, j, t});
                        }
                    }
                }
            }
            return list;
        }

        static int cell(List<int[]> list, int i, int what) {
            return in(i, list.size()) && in(what, list.get(i).length) ? list.get(i)[what] : NONE;
        }

        int breaches(int r) {
            return in(r, renderings.size()) ? allBreaches(r).size() : NONE;
        }

        int breach(int r, int i, int what) {
            return in(r, renderings.size()) ? cell(allBreaches(r), i, what) : NONE;
        }

        int quarrel(int v, int n, int what) {
            if (!in(v, verses.size())) {
                return NONE;
            }
            int[] row = sourceRow(v, day);
            List<int[]> list = new ArrayList<>();
            for (int t = 0; t < row.length; t++) {
                List<int[]> asking = new ArrayList<>();
                for (int i = 0; i < laws.size(); i++) {
                    for (int j = 0; j < laws.get(i).clauses.size(); j++) {
                        Clause c = laws.get(i).clauses.get(j);
                        if (c.kind == 'w' && c.speaksOf(row[t]) && force(laws.get(i), v, day)
                                && c.verdict(place(v, day)) == 1) {
                            asking.add(new int[] {i, j, c.word});
                        }
                    }
                }
                for (int a = 0; a < asking.size(); a++) {
                    for (int b = a + 1; b < asking.size(); b++) {
                        int[] x = asking.get(a);
                        int[] y = asking.get(b);
                        if (x[2] != y[2]) {
                            list.add(new int[] {t, x[0], x[1], y[0], y[1]});
                        }
                    }
                }
            }
            return cell(list, n, what);
        }

        List<int[]> allUnlike() {
            List<int[]> list = new ArrayList<>();
            List<int[]> places = new ArrayList<>();
            for (int v = 0; v < verses.size(); v++) {
                if (verses.get(v).fixed != NONE) {
                    for (int t = 0; t + 1 < renderings.get(verses.get(v).fixed).tokens.length; t++) {
                        places.add(new int[] {v, t});
                    }
                }
            }
            for (int a = 0; a < places.size(); a++) {
                for (int b = a + 1; b < places.size(); b++) {
                    int[] p = places.get(a);
                    int[] q = places.get(b);
                    Made x = renderings.get(verses.get(p[0]).fixed);
                    Made y = renderings.get(verses.get(q[0]).fixed);
                    boolean like = x.tokens[p[1]] == y.tokens[q[1]] && x.tokens[p[1] + 1] == y.tokens[q[1] + 1];
                    boolean alike = x.wordsOf(p[1]).equals(y.wordsOf(q[1]))
                            && x.wordsOf(p[1] + 1).equals(y.wordsOf(q[1] + 1));
                    if (like && !alike && bound(p[0], q[0])) {
                        list.add(new int[] {p[0], p[1], q[0], q[1]});
                    }
                }
            }
            return list;
        }

        boolean bound(int v, int w) {
            for (Law law : laws) {
                for (Clause c : law.clauses) {
                    if (c.kind == 's' && force(law, v, day) && force(law, w, day)
                            && c.verdict(place(v, day)) == 1 && c.verdict(place(w, day)) == 1) {
                        return true;
                    }
                }
            }
            return false;
        }

        int unlike(int i, int what) {
            return cell(allUnlike(), i, what);
        }

        boolean option(int sign, int w) {
            if (!in(sign, 40) || !in(w, words.size())) {
                return false;
            }
            List<Integer> list = options.get(sign);
            if (list == null && options.size() == 6) {
                return false;
            }
            if (list != null && (list.contains(w) || list.size() == 4)) {
                return false;
            }
            options.computeIfAbsent(sign, s -> new ArrayList<>()).add(w);
            return true;
        }

        boolean apart(int a, int b) {
            return in(a, 40) && in(b, 40) && a != b && apart.add(Math.min(a, b) + "-" + Math.max(a, b));
        }

        int price(Map<Integer, Integer> chosen) {
            for (int a : chosen.keySet()) {
                for (int b : chosen.keySet()) {
                    if (a < b && apart.contains(a + "-" + b) && chosen.get(a).equals(chosen.get(b))) {
                        return -2;
                    }
                }
            }
            int price = 0;
            for (int v = 0; v < verses.size(); v++) {
                if (verses.get(v).fixed == NONE) {
                    continue;
                }
                Made m = renderings.get(verses.get(v).fixed);
                for (Law law : laws) {
                    for (Clause c : law.clauses) {
                        if (c.kind == 'w' && force(law, v, day) && chosen.containsKey(c.sign)
                                && chosen.get(c.sign) != c.word && Arrays.stream(m.tokens).anyMatch(c::speaksOf)
                                && c.verdict(place(v, day)) == 1) {
                            return -2;
                        }
                    }
                }
                for (int[] s : m.slots) {
                    if (s[1] != 8) {
                        int sign = m.tokens[s[1]] / 4;
                        price += chosen.containsKey(sign) && chosen.get(sign) != s[0] ? 1 : 0;
                    }
                }
            }
            return price;
        }

        Map<Integer, Integer> chosen(int choice) {
            if (choice < 0) {
                return null;
            }
            Map<Integer, Integer> map = new LinkedHashMap<>();
            int rest = choice;
            for (int sign : options.keySet()) {
                if (rest % 4 >= options.get(sign).size()) {
                    return null;
                }
                map.put(sign, options.get(sign).get(rest % 4));
                rest /= 4;
            }
            return rest == 0 ? map : null;
        }

        int cost(int choice) {
            Map<Integer, Integer> map = chosen(choice);
            return map == null ? NONE : price(map);
        }

        /** The digits of a told row, turned so that the first one weighs most. */
        static int weigh(int told, int base, int size) {
            int weight = 0;
            int rest = told;
            for (int i = 0; i < size; i++) {
                weight = weight * base + rest % base;
                rest /= base;
            }
            return weight;
        }

        int one() {
            int best = NONE;
            int least = 0;
            int all = 1 << 2 * options.size();
            for (int choice = 0; choice < all; choice++) {
                int price = cost(choice);
                if (price < 0) {
                    continue;
                }
                boolean ahead = best != NONE && price == least
                        && weigh(choice, 4, options.size()) < weigh(best, 4, options.size());
                if (best == NONE || price < least || ahead) {
                    best = choice;
                    least = price;
                }
            }
            return best;
        }

        int line(int i) {
            List<Integer> list = new ArrayList<>();
            for (Verse v : verses) {
                if (v.fixed != NONE && v.measure > 0) {
                    int sum = 0;
                    for (int[] s : renderings.get(v.fixed).slots) {
                        sum += sound(s[0]);
                    }
                    if (sum != v.measure) {
                        list.add(v.fixed);
                    }
                }
            }
            return in(i, list.size()) ? list.get(i) : NONE;
        }

        boolean reads(int k, int v, int t, boolean right) {
            if (!in(k, 10) || !in(v, verses.size()) || !in(t, 8)) {
                return false;
            }
            verses.get(v).readers.get(t).put(k, right);
            return true;
        }

        int missed(int v) {
            if (!in(v, verses.size())) {
                return NONE;
            }
            int bits = 0;
            for (int t = 0; t < 8; t++) {
                int bad = 0;
                int good = 0;
                for (boolean b : verses.get(v).readers.get(t).values()) {
                    bad += b ? 0 : 1;
                    good += b ? 1 : 0;
                }
                bits |= bad > 1 && bad > good ? 1 << t : 0;
            }
            return bits;
        }

        int[] wordRow(int r) {
            return r == NONE ? new int[0] : renderings.get(r).slots.stream().mapToInt(s -> s[0]).toArray();
        }

        int changes(int v, int a, int b) {
            if (!in(v, verses.size()) || !in(a, day + 1) || !in(b, day + 1)) {
                return NONE;
            }
            return far(wordRow(fixedOn(v, a)), wordRow(fixedOn(v, b)));
        }

        int printed(int e, int v, int i) {
            if (!in(e, 4) || fixed(v) == NONE) {
                return NONE;
            }
            List<String> all = new ArrayList<>();
            for (int[] s : renderings.get(fixed(v)).slots) {
                String w = spelled.getOrDefault(e + ":" + s[0], words.get(s[0]));
                all.add(s[1] == 8 ? "[" + w + "]" : w);
            }
            String text = String.join(" ", all);
            return in(i, text.length()) ? text.charAt(i) : NONE;
        }

        List<int[]> openBooks() {
            int[] open = new int[8];
            for (Verse v : verses) {
                open[v.book] += v.fixed == NONE ? 1 : 0;
            }
            List<int[]> list = new ArrayList<>();
            for (int b = 0; b < 8; b++) {
                if (open[b] > 0 && list.size() < 6) {
                    list.add(new int[] {b, open[b]});
                }
            }
            return list;
        }

        int judge(int row) {
            List<int[]> books = openBooks();
            int rest = row;
            int[] loads = new int[6];
            int all = 0;
            for (int[] b : books) {
                int c = rest % 6;
                rest /= 6;
                if (!in(c, companies.size()) || (companies.get(c).books >> b[0] & 1) == 0 || companies.get(c).rate == 0) {
                    return NONE;
                }
                loads[c] += b[1];
                all += b[1];
            }
            if (rest != 0 || row < 0 || (all > 0 && centreRate == 0)) {
                return NONE;
            }
            int days = 0;
            for (int c = 0; c < companies.size(); c++) {
                if (loads[c] > 0) {
                    days = Math.max(days, (int) Math.ceil(loads[c] / (double) companies.get(c).rate));
                }
            }
            return all == 0 ? 0 : Math.max(days, (int) Math.ceil(all / (double) centreRate));
        }

        int plan(int i) {
            int size = openBooks().size();
            int best = NONE;
            int all = (int) Math.pow(6, size);
            for (int row = 0; row < all; row++) {
                int days = judge(row);
                if (days == NONE) {
                    continue;
                }
                if (best == NONE || days < judge(best)
                        || (days == judge(best) && weigh(row, 6, size) < weigh(best, 6, size))) {
                    best = row;
                }
            }
            if (best == NONE) {
                return NONE;
            }
            if (i == NONE) {
                return judge(best);
            }
            return in(i, size) ? best / (int) Math.pow(6, i) % 6 : NONE;
        }

        int check(int n) {
            if (!taped(2L * n, 0, 120)) {
                return -2;
            }
            List<Integer> due = new ArrayList<>();
            for (int v = 0; v < verses.size(); v++) {
                if (verses.get(v).fixed != NONE) {
                    due.add(v);
                    due.add(verses.get(v).fixed);
                }
            }
            List<Integer> told = new ArrayList<>(tape.subList(0, 2 * n));
            tape.clear();
            int i = 0;
            while (i < due.size() && i < told.size() && due.get(i).equals(told.get(i))) {
                i++;
            }
            return i == due.size() && i == told.size() ? NONE : i;
        }

        int look(int r, int what) {
            if (!in(r, renderings.size())) {
                return NONE;
            }
            Made m = renderings.get(r);
            int left = 0;
            for (int t = 0; t < m.tokens.length; t++) {
                left |= m.wordsOf(t).isEmpty() ? 1 << t : 0;
            }
            if (what >= 20) {
                return in((what - 20) / 2, m.slots.size()) ? m.slots.get((what - 20) / 2)[what % 2] : NONE;
            }
            return switch (what) {
                case 0 -> m.scholar;
                case 1 -> m.verse;
                case 2 -> m.state;
                case 3 -> m.madeDay;
                case 4 -> m.copy;
                case 5 -> m.slots.size();
                case 6 -> left;
                case 7, 8 -> m.ballots[what - 7].counted == null ? NONE : m.ballots[what - 7].ayes();
                case 9 -> m.state == 2 || m.state == 4 ? m.fixedDay : NONE;
                default -> NONE;
            };
        }

        int count(int what) {
            return switch (what) {
                case 0 -> day;
                case 1 -> verses.size();
                case 2 -> words.size();
                case 3 -> companies.size();
                case 4 -> scholars.size();
                case 5 -> laws.size();
                case 6 -> renderings.size();
                case 7 -> tape.size();
                case 8 -> options.size();
                case 9 -> (int) verses.stream().filter(v -> v.fixed != NONE).count();
                case 10 -> allUnlike().size();
                default -> what >= 20 && what <= 24
                        ? (int) renderings.stream().filter(m -> m.state == what - 20).count() : NONE;
            };
        }
    }
}
