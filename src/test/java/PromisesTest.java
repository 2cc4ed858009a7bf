/**
 * One method for each promise of the document: ordinary inputs, the edges that it names, wrong inputs.
 */
public final class PromisesTest {
    private static final int NONE = -1;
    private static int wrong;
    private static int asked;
    private static int promise;

    private VerseCommittee x = new VerseCommittee();

    private PromisesTest() {
    }

    public static void main(String[] args) {
        for (promise = 1; promise <= 40; promise++) {
            new PromisesTest().keep(promise);
        }
        System.out.println("promises: " + asked + " asked, " + wrong + " wrong");
        if (wrong != 0) {
            System.exit(1);
        }
    }

    private void keep(int number) {
        switch (number) {
            case 1 -> newObject();
            case 2 -> now();
            case 3 -> feed();
            case 4 -> verse();
            case 5 -> source();
            case 6 -> word();
            case 7 -> spell();
            case 8 -> syllables();
            case 9 -> company();
            case 10 -> centre();
            case 11 -> scholar();
            case 12 -> {
                rules();
                faults();
            }
            case 13 -> holds();
            case 14 -> asks();
            case 15 -> token();
            case 16 -> differ();
            case 17 -> render();
            case 18 -> vote();
            case 19 -> close();
            case 20 -> voids();
            case 21 -> fixed();
            case 22 -> fixedOn();
            case 23 -> breaches();
            case 24 -> breach();
            case 25 -> quarrel();
            case 26 -> unlike();
            case 27 -> option();
            case 28 -> apart();
            case 29 -> cost();
            case 30 -> one();
            case 31 -> line();
            case 32 -> reads();
            case 33 -> missed();
            case 34 -> changes();
            case 35 -> printed();
            case 36 -> plan();
            case 37 -> judge();
            case 38 -> check();
            case 39 -> {
                look();
                x = new VerseCommittee();
                lookDayInEveryState();
            }
            default -> count();
        }
    }

    // ------------------------------------------------------------------ helpers

    private static void due(long got, long want) {
        asked++;
        if (got != want) {
            wrong++;
            StackTraceElement at = new Throwable().getStackTrace()[1];
            if (at.getMethodName().equals("due")) {
                at = new Throwable().getStackTrace()[2];
            }
            System.out.println("promise " + promise + ", line " + at.getLineNumber() + ": " + got + ", due is " + want);
        }
    }

    private static void due(boolean got, boolean want) {
        due(got ? 1 : 0, want ? 1 : 0);
    }

    /** The tape then has these bytes ahead, whatever stood on it. */
    private void lay(int... bytes) {
        x.check(0);
        for (int i = 0; i < bytes.length; i += 20) {
            int[] five = new int[5];
            for (int k = 0; k < 20; k++) {
                five[k / 4] = five[k / 4] << 8 | (i + k < bytes.length ? bytes[i + k] : 0);
            }
            x.feed(five[0], five[1], five[2], five[3], five[4]);
        }
    }

    private static int[] bytes(String text) {
        int[] row = new int[text.length()];
        for (int i = 0; i < row.length; i++) {
            row[i] = text.charAt(i);
        }
        return row;
    }

    private int word(String text) {
        lay(bytes(text));
        return x.word(text.length());
    }

    private void words(String... all) {
        for (String s : all) {
            word(s);
        }
    }

    private int law(String text) {
        return law(NONE, 0, 3999, text);
    }

    private int law(int company, int from, int to, String text) {
        lay(bytes(text));
        return x.rules(company, from, to, text.length());
    }

    private boolean source(int v, int c, int... tokens) {
        lay(tokens);
        return x.source(v, c, tokens.length);
    }

    private int render(int s, int v, int... slots) {
        lay(slots);
        return x.render(s, v, slots.length / 2);
    }

    /** A company of all books, one scholar of it and of the centre, three words, votes that need nothing. */
    private void office() {
        words("in", "god", "sky");
        x.company(255, 1);
        x.scholar(0, true);
        law("v0.0;v1.0");
    }

    private int fix(int v, int... slots) {
        int r = render(0, v, slots);
        x.close(r);
        x.close(r);
        return r;
    }

    private String print(int edition, int v) {
        StringBuilder b = new StringBuilder();
        for (int i = 0; x.printed(edition, v, i) != NONE; i++) {
            b.append((char) x.printed(edition, v, i));
        }
        return b.toString();
    }

    // ------------------------------------------------------------------ the promises

    private void newObject() {
        for (int what = 0; what <= 10; what++) {
            due(x.count(what), 0);
        }
        for (int what = 20; what <= 24; what++) {
            due(x.count(what), 0);
        }
        due(x.plan(NONE), 0);
        due(x.fixed(0), NONE);
        due(VerseCommittee.NONE, -1);
    }

    private void now() {
        due(x.now(0), true);
        due(x.now(5), true);
        due(x.now(5), true);
        due(x.now(4), false);
        due(x.now(-1), false);
        due(x.now(4000), false);
        due(x.count(0), 5);
        due(x.now(3999), true);
        due(x.now(3998), false);
        due(x.count(0), 3999);
    }

    private void feed() {
        for (int i = 1; i <= 10; i++) {
            due(x.feed(-1, 0x01020304, 0, i, 0x7f000000), 20 * i);
        }
        due(x.feed(0, 0, 0, 0, 0), NONE);
        due(x.count(7), 200);
        x.verse(0, 0);
        due(x.check(60), 0);
        x.feed(0x04080c10, 0x14181c9f, 0, 0, 0);
        due(x.source(0, 0, 8), true);
        due(x.token(0, 0, 0), 4);
        due(x.token(0, 0, 3), 16);
        due(x.token(0, 0, 4), 20);
        due(x.token(0, 0, 7), 159);
    }

    private void verse() {
        due(x.verse(8, 0), NONE);
        due(x.verse(-1, 0), NONE);
        due(x.verse(0, -1), NONE);
        due(x.verse(0, 41), NONE);
        for (int v = 0; v < 60; v++) {
            due(x.verse(v % 8, v % 41), v);
        }
        due(x.verse(0, 0), NONE);
        due(x.count(1), 60);
    }

    private void source() {
        x.verse(0, 0);
        lay(0, 159, 3, 4, 5, 6, 7, 8, 160);
        due(x.source(1, 0, 1), false);
        due(x.source(-1, 0, 1), false);
        due(x.source(0, 3, 1), false);
        due(x.source(0, -1, 1), false);
        due(x.source(0, 0, 0), false);
        due(x.source(0, 0, 9), false);
        due(x.count(7), 20);
        due(x.source(0, 0, 8), true);
        due(x.count(7), 0);
        due(x.source(0, 0, 1), false);
        due(source(0, 1, 160), false);
        due(x.count(7), 20);
        due(x.token(0, 1, 0), NONE);
        due(x.token(0, 0, 1), 159);
        office();
        due(render(0, 0, 0, 0), 0);
        due(source(0, 0, 12), true);
        due(x.token(0, 0, 0), 12);
        due(x.token(0, 0, 1), NONE);
        due(x.look(0, 6), 254);
    }

    private void word() {
        due(word("abcdefghijkl"), 0);
        due(x.count(7), 0);
        due(word("abcdefghijklm"), NONE);
        due(x.count(7), 20);
        due(word("abcdefghijkl"), NONE);
        due(word("a"), 1);
        due(word("a"), NONE);
        due(x.count(7), 20);
        due(word("z"), 2);
        due(word("a`"), NONE);
        due(word("a{"), NONE);
        due(word("A"), NONE);
        due(word("aa"), 3);
        due(x.word(0), NONE);
        due(x.word(1), NONE);
        due(x.word(-1), NONE);
        for (int w = 4; w < 80; w++) {
            due(word("b" + (char) ('a' + w / 26) + (char) ('a' + w % 26)), w);
        }
        due(word("zzz"), NONE);
        due(x.count(2), 80);
    }

    private void spell() {
        office();
        x.verse(0, 0);
        source(0, 0, 4, 8);
        fix(0, 0, 0, 1, 1);
        lay(bytes("ydd"));
        due(x.spell(4, 0, 3), false);
        due(x.spell(-1, 0, 3), false);
        due(x.spell(0, 3, 3), false);
        due(x.spell(0, -1, 3), false);
        due(x.spell(0, 0, 0), false);
        due(x.spell(0, 0, 13), false);
        due(x.spell(0, 0, 4), false);
        due(x.count(7), 20);
        due(x.spell(3, 0, 3), true);
        due(x.count(7), 0);
        due(x.spell(3, 0, 3), false);
        due(print(3, 0).equals("ydd god"), true);
        due(print(0, 0).equals("in god"), true);
        lay(bytes("y"));
        due(x.spell(3, 0, 1), true);
        lay(bytes("godwardsgods"));
        due(x.spell(0, 1, 12), true);
        due(print(3, 0).equals("y god"), true);
        due(print(0, 0).equals("in godwardsgods"), true);
        due(word("ydd"), 3);
    }

    private void syllables() {
        words("mercy", "love", "sky", "hmm", "queue", "aba", "yacht", "eye", "banana");
        int[] want = {2, 2, 1, 1, 1, 2, 1, 1, 3};
        for (int w = 0; w < want.length; w++) {
            due(x.syllables(w), want[w]);
        }
        lay(bytes("aoaxaxa"));
        due(x.spell(0, 3, 7), true);
        due(x.syllables(3), 1);
        due(x.syllables(9), NONE);
        due(x.syllables(-1), NONE);
    }

    private void company() {
        due(x.company(-1, 0), NONE);
        due(x.company(256, 0), NONE);
        due(x.company(0, -1), NONE);
        due(x.company(0, 100), NONE);
        for (int c = 0; c < 6; c++) {
            due(x.company(c == 0 ? 0 : 255, 99 * (c % 2)), c);
        }
        due(x.company(0, 0), NONE);
        due(x.count(3), 6);
        x.verse(7, 0);
        due(x.asks(0, 0, 5), 1);
    }

    private void centre() {
        x.company(1, 1);
        x.verse(0, 0);
        due(x.plan(NONE), NONE);
        due(x.centre(-1), false);
        due(x.centre(100), false);
        due(x.centre(99), true);
        due(x.plan(NONE), 1);
        due(x.centre(0), true);
        due(x.plan(NONE), NONE);
    }

    private void scholar() {
        due(x.scholar(0, true), NONE);
        x.company(1, 1);
        due(x.scholar(1, true), NONE);
        due(x.scholar(-1, true), NONE);
        for (int s = 0; s < 24; s++) {
            due(x.scholar(0, s % 2 == 0), s);
        }
        due(x.scholar(0, false), NONE);
        due(x.count(4), 24);
    }

    private void rules() {
        x.company(1, 0);
        x.company(2, 0);
        lay(bytes("s"));
        due(x.rules(2, 0, 0, 1), NONE);
        due(x.rules(-2, 0, 0, 1), NONE);
        due(x.rules(NONE, -1, 0, 1), NONE);
        due(x.rules(NONE, 0, 4000, 1), NONE);
        due(x.rules(NONE, 4000, 4000, 1), NONE);
        due(x.rules(NONE, 1, 0, 1), NONE);
        due(x.rules(NONE, 0, 0, 0), NONE);
        due(x.rules(NONE, 0, 0, 161), NONE);
        due(x.rules(NONE, 0, 0, 21), NONE);
        due(x.count(7), 20);
        due(x.rules(NONE, 0, 0, 1), 0);
        due(x.count(7), 0);
        due(law("q"), -1000);
        due(x.count(7), 0);
        due(x.count(5), 1);
        // 159 bytes of clauses: a text of 160 at most
        StringBuilder b = new StringBuilder("s(v=0");
        while (b.length() < 155) {
            b.append("|v=0");
        }
        while (b.length() < 158) {
            b.insert(2, "!");
        }
        b.insert(2, "!").append(")");
        due(b.length(), 160);
        lay(new int[180]);
        due(x.rules(NONE, 0, 0, 161), NONE);
        due(x.count(7), 180);
        due(law(b.toString()), 1);
        for (int i = 2; i < 20; i++) {
            due(law(i % 3 - 1, 3999, 3999, "s"), i);
        }
        due(law("s"), NONE);
        due(x.count(7), 20);
        due(law("q"), NONE);
        due(x.count(5), 20);
    }

    private void faults() {
        String[] texts = {"q", "w", "w40.0=0", "w39.3=79", "w1.4=0", "w1..=0", "w1.0=80", "w1.0=1(", "w123456", "w99999",
            "w12345a", "s(x=1)", "k01", "k013", "k010", "k00", "k3", "k012;", "v2.1", "v0", "v0.", "v0.101", "v1.100", "o",
            "o99999", "o999990", "s;", "s,s", ";s", "s;;s", "s((((((v=1))))))", "s(((((((v=1)))))))", "s(!!!![v]=1)",
            "s(!!!!![v]=1)", "s(!!!!!!v=1)", "s(!v=1&!v=1&!v=1&!v=1&!v=1&!v=1&!v=1)", "s(v=1)(v=1)", "s(v)", "s()", "s(v=1",
            "s(v=-1)", "s(v==1)", "s(v=1=1)", "s([v=1])", "s((v)=1)", "s([[[[[v]]]]]=1)", "s([[[[[[v]]]]]]=1)", "s(v=[v)",
            "s(v=v])", "s(v=123456)", "s(v=99999)", "s(v=00001)", "s(v=000001)", "s(v+*v=1)", "s(v&v=1)", "s(v=1&)", "s(v=1|)",
            "s (v=1)", "k012(v=1)", "o1(v=1)", "v0.1(v=1)", "w1.0=1s", "w1.*=1", "w1.**=1", "w.0=1", "w1=1", "s(!)", "S", "v01",
            "w00039.0=00079", "w000039.0=1", "s;q", "s(1=1;s", "s(v=1));", "s(((((((x", "s(((((()"};
        int[] want = {-1000, -1001, -3001, 0, -1003, -1003, -3005, -1007, -2006, -3001,
            -3001, -1002, -1003, -1003, -6003, -6002, -1001, -1005, -1001, -1002, -1003, -3003, 0, -1001,
            0, -2006, -1002, -1001, -1000, -1002, 0, -5007, 0,
            -5007, -5007, 0, -1006, -1003, -1002, -1005,
            -1004, -1004, -1005, -1004, -1004, 0, -5007, -1006,
            -1005, -2009, 0, 0, -2009, -1004, -1003, -1006, -1006,
            -1001, -1004, -1002, -1004, -1006, 0, -1004, -1001, -1002, -1003, -1000, -1002,
            0, -2006, -1002, -1005, -1006, -5007, -1007};
        due(texts.length, want.length);
        for (int i = 0; i < texts.length; i++) {
            x = new VerseCommittee();
            int told = law(texts[i]);
            if (told != want[i]) {
                System.out.println("  " + texts[i]);
            }
            due(told, want[i]);
            due(x.count(5), told == 0 ? 1 : 0);
            due(x.count(7), 0);
        }
        String many = "s;s;s;s;s;s;s;s;s;s;s;s;s;s;s;s";
        x = new VerseCommittee();
        due(law(many), 0);
        due(law(many + ";w1.0=1"), -4032);
        due(law(many + ";x"), -1032);
        due(law(many + ";"), -1032);
        due(x.holds(0, 15, 0, 0), NONE);
        x.verse(0, 0);
        due(x.holds(0, 15, 0, 0), 1);
        due(x.holds(0, 16, 0, 0), NONE);
    }

    private int ask(String condition, int v, int day) {
        return x.holds(law("s(" + condition + ")"), 0, v, day);
    }

    private void holds() {
        x.company(2, 0);
        x.verse(0, 7);
        x.verse(1, 9);
        source(1, 1, 4, 8, 12);
        due(ask("v=1", 1, 0), 1);
        due(ask("b=1&m=9&n=3&c=0&d=17", 1, 17), 1);
        due(ask("n=0&c=0-1", 0, 0), 1);
        due(ask("v=0&1/v=1", 1, 0), 0);
        due(ask("v=1&1/[v-1]=1", 1, 0), 2);
        due(ask("v=1|1/[v-1]=1", 1, 0), 1);
        due(ask("1%v=0|v=0", 0, 0), 2);
        due(ask("!1/v=0", 0, 0), 2);
        due(ask("7-3-2=2&7-[3-2]=6&2+3*4=14&7/2*2=6&7%4*2=6", 0, 0), 1);
        due(ask("0-7/2=0-3&[0-7]%2=0-1&[0-7]/2=0-3", 0, 0), 1);
        due(ask("99999*99999=14098*50000*2+65409", 0, 0), 1);
        due(ask("46341*46341<0", 0, 0), 1);
        due(ask("32768*65536/[0-1]=32768*65536", 0, 0), 1);
        due(ask("32768*65536%[0-1]=0", 0, 0), 1);
        due(ask("32768*65536-1>0", 0, 0), 1);
        x = new VerseCommittee();
        x.company(2, 0);
        x.verse(0, 7);
        x.verse(1, 9);
        due(ask("v=1|v=0&m=6", 0, 0), 0);
        due(ask("v=0|v=0&1/v=1", 0, 0), 1);
        due(ask("!!!!!v=1", 0, 0), 1);
        due(ask("((((([v]=0)))))", 0, 0), NONE);
        due(ask("(((([v]=0&v<1))))&m=7", 0, 0), 1);
        due(ask("(((((v=0|v=1)&v<1))))&m=7", 0, 0), 1);
        due(ask("[[[[[v+7]]]]-1]*2=12", 0, 0), 1);
        due(ask("(v=1|v=0)&m=7", 0, 0), 1);
        due(ask("!v=1&m=7", 0, 0), 1);
        due(ask("!(v=1&m=7)", 0, 0), 1);
        due(ask("!!v=0", 0, 0), 1);
        due(ask("v<1", 0, 0), 1);
        due(ask("v>0|v>1", 0, 0), 0);
        due(ask("0-1<v", 0, 0), 1);
        x = new VerseCommittee();
        x.verse(0, 0);
        for (int i = 0; i < 8; i++) {
            law("s(v=1)");
        }
        due(law(NONE, 5, 6, "w1.0=1;w1.0=1(d=4);k012;v0.1;o3"), 8);
        due(x.holds(8, 0, 0, 0), 1);
        due(x.holds(8, 1, 0, 4), 1);
        due(x.holds(8, 1, 0, 5), 0);
        due(x.holds(8, 2, 0, 0), 1);
        due(x.holds(8, 3, 0, 0), 1);
        due(x.holds(8, 4, 0, 0), 1);
        due(x.holds(8, 5, 0, 0), NONE);
        due(x.holds(8, -1, 0, 0), NONE);
        due(x.holds(9, 0, 0, 0), NONE);
        due(x.holds(-1, 0, 0, 0), NONE);
        due(x.holds(8, 0, 2, 0), NONE);
        due(x.holds(8, 0, -1, 0), NONE);
        due(x.holds(8, 0, 0, 4000), NONE);
        due(x.holds(8, 0, 0, -1), NONE);
        due(x.holds(8, 0, 0, 3999), 1);
    }

    private void asks() {
        x.verse(0, 0);
        x.verse(1, 0);
        x.company(2, 0);
        x.company(3, 0);
        source(0, 2, 4, 8);
        source(0, 1, 4);
        due(x.asks(0, 0, 0), 50);
        due(x.asks(0, 0, 1), 50);
        due(x.asks(0, 0, 2), 0);
        due(x.asks(0, 0, 3), 1);
        due(x.asks(0, 0, 4), 1);
        due(x.asks(0, 0, 5), 1);
        due(x.asks(1, 0, 5), 0);
        due(x.asks(1, 0, 3), NONE);
        due(x.asks(1, 0, 4), 0);
        law(NONE, 2, 4, "v0.10;v0.20;v1.30;o5;o6;k210;k021");
        law(1, 3, 3, "v0.99;k201");
        due(x.asks(0, 1, 0), 50);
        due(x.asks(0, 2, 0), 20);
        due(x.asks(0, 3, 0), 99);
        due(x.asks(1, 3, 0), 20);
        due(x.asks(0, 3, 1), 30);
        due(x.asks(0, 4, 1), 30);
        due(x.asks(0, 5, 1), 50);
        due(x.asks(0, 4, 2), 6);
        due(x.asks(0, 2, 3), 2);
        due(x.asks(0, 2, 4), 2);
        due(x.asks(0, 5, 3), 1);
        due(x.asks(0, 0, 6), NONE);
        due(x.asks(0, 0, -1), NONE);
        due(x.asks(2, 0, 0), NONE);
        due(x.asks(-1, 0, 0), NONE);
        due(x.asks(0, 4000, 0), NONE);
        due(x.asks(0, -1, 0), NONE);
        x = new VerseCommittee();
        x.verse(0, 0);
        law("o7");
        due(x.asks(0, 3999, 2), 7);
        due(x.asks(0, 0, 5), NONE);
        x.company(0, 0);
        law(0, 0, 3999, "o8");
        due(x.asks(0, 0, 2), 7);
        x.company(1, 0);
        due(x.asks(0, 0, 5), 1);
    }

    private void token() {
        x.verse(0, 0);
        source(0, 2, 4, 159);
        due(x.token(0, 2, 0), 4);
        due(x.token(0, 2, 1), 159);
        due(x.token(0, 2, 2), NONE);
        due(x.token(0, 2, -1), NONE);
        due(x.token(0, 1, 0), NONE);
        due(x.token(0, 3, 0), NONE);
        due(x.token(0, -1, 0), NONE);
        due(x.token(1, 2, 0), NONE);
        due(x.token(-1, 2, 0), NONE);
    }

    private void differ() {
        x.verse(0, 0);
        source(0, 0, 1, 2, 3, 4, 5, 6, 7, 8);
        source(0, 1, 2, 3, 4, 5, 6, 7, 8, 1);
        due(x.differ(0, 0, 1), 2);
        due(x.differ(0, 1, 0), 2);
        due(x.differ(0, 0, 0), 0);
        due(x.differ(0, 0, 2), NONE);
        due(x.differ(0, 2, 2), NONE);
        source(0, 2, 9);
        due(x.differ(0, 0, 2), 8);
        due(x.differ(0, 2, 1), 8);
        due(x.differ(0, 0, 3), NONE);
        due(x.differ(0, -1, 0), NONE);
        due(x.differ(1, 0, 0), NONE);
    }

    private void render() {
        office();
        x.verse(0, 0);
        due(render(0, 0, 0, 8), NONE);
        due(x.count(7), 20);
        source(0, 1, 4, 8, 12);
        due(render(1, 0, 0, 0), NONE);
        due(render(-1, 0, 0, 0), NONE);
        due(render(0, 1, 0, 0), NONE);
        due(render(0, 0, 3, 0), NONE);
        due(render(0, 0, 0, 3), NONE);
        due(render(0, 0, 0, 9), NONE);
        due(x.render(0, 0, 0), NONE);
        due(x.render(0, 0, 13), NONE);
        due(x.render(0, 0, 11), NONE);
        due(x.count(7), 20);
        due(render(0, 0, 2, 2), 0);
        due(x.count(7), 0);
        due(x.look(0, 4), 1);
        int[] slots = new int[26];
        slots[21] = 8;
        slots[22] = 1;
        slots[23] = 2;
        lay(slots);
        due(x.render(0, 0, 13), NONE);
        due(x.count(7), 40);
        due(x.render(0, 0, 12), 1);
        lay(new int[20]);
        due(x.render(0, 0, 11), NONE);
        due(x.render(0, 0, 12), NONE);
        due(x.count(7), 20);
        due(x.render(0, 0, 10), 2);
        due(x.look(1, 5), 12);
        due(x.look(1, 42), 1);
        due(x.look(1, 41), 8);
        source(0, 0, 0, 0, 0, 0, 0, 0, 0, 0);
        due(render(0, 0, 0, 7), 3);
        due(x.look(3, 4), 0);
        due(x.look(0, 4), 1);
        x.scholar(0, false);
        x.voids(1);
        due(render(1, 0, 0, 0), NONE);
        for (int r = 4; r < 200; r++) {
            lay(0, 0);
            due(x.render(0, 0, 1), r);
        }
        due(render(0, 0, 0, 0), NONE);
        due(x.count(6), 200);
    }

    private void vote() {
        words("in");
        x.company(1, 1);
        x.company(2, 1);
        x.scholar(0, false);
        x.scholar(0, true);
        x.scholar(1, true);
        x.verse(0, 0);
        source(0, 0, 4);
        render(0, 0, 0, 0);
        due(x.vote(0, 1, true), false);
        due(x.vote(0, -1, true), false);
        due(x.vote(3, 0, true), false);
        due(x.vote(-1, 0, true), false);
        due(x.vote(2, 0, true), false);
        due(x.vote(0, 0, true), true);
        due(x.vote(0, 0, false), true);
        due(x.vote(1, 0, false), true);
        due(x.vote(1, 0, true), true);
        due(x.close(0), 1);
        due(x.look(0, 7), 1);
        due(x.vote(0, 0, true), false);
        due(x.vote(1, 0, true), true);
        due(x.vote(2, 0, true), true);
        due(x.voids(0), 0);
        due(x.voids(2), 0);
        due(x.vote(2, 0, true), false);
        due(x.close(0), 2);
        due(x.look(0, 8), 1);
        due(x.vote(1, 0, true), false);
        render(1, 0, 0, 0);
        due(x.vote(0, 1, true), false);
        due(x.vote(1, 1, false), true);
        due(x.close(1), 3);
        due(x.vote(1, 1, true), false);
        // a verse of no company has no scholars
        x.verse(7, 0);
        source(1, 0, 4);
        render(1, 1, 0, 0);
        due(x.vote(1, 2, true), false);
        due(x.close(2), NONE);
    }

    private void close() {
        words("in");
        x.company(1, 1);
        x.verse(0, 0);
        source(0, 0, 4);
        for (int s = 0; s < 3; s++) {
            x.scholar(0, false);
        }
        law(NONE, 0, 0, "v0.67");
        law(NONE, 1, 3999, "v0.66;v1.100;o2");
        due(x.close(0), NONE);
        for (int r = 0; r < 2; r++) {
            render(0, 0, 0, 0);
            x.vote(0, r, true);
            x.vote(1, r, true);
        }
        due(x.close(0), 3);
        due(x.look(0, 7), 2);
        due(x.look(0, 8), NONE);
        due(x.close(0), NONE);
        x.now(1);
        due(x.close(1), 1);
        due(x.look(1, 3), 0);
        due(x.close(1), NONE);
        x.scholar(0, true);
        x.scholar(0, true);
        x.vote(3, 1, true);
        x.vote(4, 1, true);
        due(x.close(1), 2);
        due(x.look(1, 8), 2);
        // what is fixed may be opened again behind two days
        render(0, 0, 0, 0);
        for (int s = 0; s < 5; s++) {
            x.vote(s, 2, true);
        }
        due(x.close(2), 1);
        x.vote(3, 2, true);
        x.vote(4, 2, true);
        x.now(3);
        due(x.close(2), NONE);
        due(x.look(2, 2), 1);
        due(x.look(2, 8), NONE);
        x.now(4);
        due(x.close(2), 2);
        due(x.look(1, 2), 4);
        due(x.look(1, 3), 0);
        due(x.look(1, 9), 1);
        due(x.look(2, 9), 4);
        due(x.fixed(0), 2);
        // a vote that would not go on is closed at once
        render(0, 0, 0, 0);
        for (int s = 0; s < 5; s++) {
            x.vote(s, 3, true);
        }
        due(x.close(3), 1);
        x.vote(3, 3, true);
        due(x.close(3), 3);
        due(x.look(3, 7), 5);
        due(x.look(3, 8), 1);
        due(x.fixed(0), 2);
        due(x.close(4), NONE);
        due(x.close(-1), NONE);
    }

    private void voids() {
        words("in");
        x.company(1, 1);
        x.verse(0, 0);
        source(0, 0, 4);
        for (int s = 0; s < 4; s++) {
            x.scholar(0, s > 1);
        }
        due(x.voids(4), NONE);
        due(x.voids(-1), NONE);
        // rendering 0: passed by 0, 1 (yes) of four, fixed by 2, 3
        render(0, 0, 0, 0);
        x.vote(0, 0, true);
        x.vote(1, 0, true);
        x.vote(2, 0, false);
        due(x.close(0), 1);
        x.vote(2, 0, true);
        due(x.close(0), 2);
        // rendering 1: dropped, with a vote of 2 kept
        render(0, 0, 0, 0);
        x.vote(2, 1, true);
        due(x.close(1), 3);
        // rendering 2: proposed, with a vote of 2
        render(0, 0, 0, 0);
        x.vote(2, 2, true);
        x.now(1);
        // a no of stage 0 goes, a yes of stage 1: one is left there, who said nothing
        due(x.voids(2), 1);
        due(x.voids(2), NONE);
        due(x.look(0, 2), 1);
        due(x.look(0, 3), 0);
        due(x.look(0, 7), 2);
        due(x.look(0, 8), NONE);
        due(x.look(0, 9), NONE);
        due(x.fixed(0), NONE);
        due(x.fixedOn(0, 0), 0);
        due(x.look(1, 7), 1);
        due(x.look(2, 2), 0);
        due(x.close(2), 3);
        due(x.look(2, 7), 0);
        x.vote(3, 0, true);
        due(x.close(0), 2);
        // stage 0 stood with 2 of 3; without one it is 1 of 2, which still is half
        due(x.voids(0), 0);
        due(x.look(0, 7), 1);
        due(x.look(0, 8), 1);
        // 0 of 1 is too few: back to the first stage, and the vote of stage 1 stays for later
        due(x.voids(1), 1);
        due(x.look(0, 2), 0);
        due(x.look(0, 7), NONE);
        due(x.look(0, 8), NONE);
        due(x.vote(3, 0, true), true);
        due(x.close(0), 1);
        due(x.close(0), 2);
        due(x.look(0, 8), 1);
        // none left
        due(x.voids(3), 1);
        due(x.look(0, 2), 0);
        due(x.close(0), NONE);
        voidsOfPassed();
    }

    private void voidsOfPassed() {
        x = new VerseCommittee();
        words("in");
        x.company(1, 1);
        x.verse(0, 0);
        source(0, 0, 4);
        x.scholar(0, true);
        x.scholar(0, true);
        x.scholar(0, true);
        law("v0.0;v1.0;o0");
        // nobody voted: nothing is anybody's vote
        render(0, 0, 0, 0);
        x.close(0);
        x.close(0);
        render(0, 0, 0, 0);
        x.vote(0, 1, false);
        x.close(1);
        due(x.voids(0), 0);
        due(x.look(0, 2), 2);
        due(x.look(1, 2), 1);
        due(x.look(1, 7), 0);
        // replaced ones keep what they have
        x.vote(1, 1, true);
        x.now(1);
        due(x.close(1), 2);
        due(x.look(1, 8), 1);
        render(1, 0, 0, 0);
        x.vote(1, 2, true);
        x.close(2);
        x.now(2);
        due(x.close(2), 2);
        due(x.look(1, 2), 4);
        due(x.voids(1), 0);
        due(x.look(1, 2), 4);
        due(x.look(1, 8), 1);
        due(x.look(2, 7), 0);
    }

    private void fixed() {
        office();
        x.verse(0, 0);
        x.verse(0, 0);
        source(1, 0, 4);
        due(x.fixed(1), NONE);
        render(0, 1, 0, 0);
        x.close(0);
        due(x.fixed(1), NONE);
        x.close(0);
        due(x.fixed(1), 0);
        due(x.fixed(0), NONE);
        due(x.fixed(2), NONE);
        due(x.fixed(-1), NONE);
        x.now(1);
        fix(1, 1, 0);
        due(x.fixed(1), 1);
    }

    private void fixedOn() {
        office();
        x.verse(0, 0);
        source(0, 0, 4);
        x.now(3);
        fix(0, 0, 0);
        x.now(5);
        fix(0, 1, 0);
        x.now(8);
        int[] want = {NONE, NONE, NONE, 0, 0, 1, 1, 1, 1, NONE};
        for (int day = 0; day < want.length; day++) {
            due(x.fixedOn(0, day), want[day]);
        }
        due(x.fixedOn(0, -1), NONE);
        due(x.fixedOn(1, 8), NONE);
        due(x.fixedOn(-1, 8), NONE);
        // on the last day of what becomes void nothing is fixed at its end
        x.scholar(0, true);
        int r = render(0, 0, 0, 0);
        x.vote(1, r, true);
        law("v1.1");
        x.close(r);
        x.vote(1, r, true);
        x.close(r);
        due(x.fixedOn(0, 8), 2);
        x.now(10);
        due(x.voids(1), 1);
        due(x.fixedOn(0, 9), 2);
        due(x.fixedOn(0, 10), NONE);
        due(x.fixedOn(0, 7), 1);
    }

    private void breachOffice() {
        office();
        x.verse(0, 0);
        x.verse(1, 0);
        source(0, 0, 4, 5, 4, 8);
        law("s;w1.*=1;w1.1=0(v=0);w1.1=0(1/v=0)");
        law(NONE, 1, 1, "w2.*=79");
        // token 0 by god, 1 by in and god, 2 is left, 3 by sky
        render(0, 0, 1, 0, 0, 1, 1, 1, 2, 3, 0, 8);
    }

    private void breaches() {
        breachOffice();
        due(x.breaches(0), 3);
        x.now(1);
        due(x.breaches(0), 4);
        x.now(2);
        due(x.breaches(0), 3);
        source(0, 0, 8);
        due(x.breaches(0), 3);
        due(x.breaches(1), NONE);
        due(x.breaches(-1), NONE);
        x = new VerseCommittee();
        office();
        x.company(0, 0);
        x.verse(0, 0);
        source(0, 0, 4);
        law(1, 0, 3999, "w1.0=1");
        due(fix(0, 0, 0), 0);
        due(x.breaches(0), 0);
        law(0, 0, 3999, "w1.0=1;w1.2=1;w2.0=1");
        due(x.breaches(0), 1);
    }

    private void breach() {
        breachOffice();
        x.now(1);
        int[][] want = {{1, 1, 1}, {1, 1, 2}, {1, 2, 1}, {2, 0, 3}};
        for (int i = 0; i < want.length; i++) {
            for (int what = 0; what < 3; what++) {
                due(x.breach(0, i, what), want[i][what]);
            }
        }
        due(x.breach(0, 4, 0), NONE);
        due(x.breach(0, -1, 0), NONE);
        due(x.breach(0, 0, 3), NONE);
        due(x.breach(0, 0, -1), NONE);
        due(x.breach(1, 0, 0), NONE);
        due(x.breach(-1, 0, 0), NONE);
    }

    private void quarrel() {
        x.verse(0, 0);
        x.verse(0, 0);
        source(0, 0, 8, 5);
        law("w1.*=1;w2.0=3;w1.1=2(v=0)");
        law("w1.1=1;w1.1=5(v=1);w2.*=3");
        law(NONE, 1, 1, "w2.0=4");
        int[][] today = {{1, 0, 0, 0, 2}, {1, 0, 2, 1, 0}};
        int[][] later = {{0, 0, 1, 2, 0}, {0, 1, 2, 2, 0}, {1, 0, 0, 0, 2}, {1, 0, 2, 1, 0}};
        for (int i = 0; i < 5; i++) {
            for (int what = 0; what < 5; what++) {
                due(x.quarrel(0, i, what), i < today.length ? today[i][what] : NONE);
            }
        }
        x.now(1);
        for (int i = 0; i < 5; i++) {
            for (int what = 0; what < 5; what++) {
                due(x.quarrel(0, i, what), i < later.length ? later[i][what] : NONE);
            }
        }
        due(x.quarrel(0, 0, 5), NONE);
        due(x.quarrel(0, 0, -1), NONE);
        due(x.quarrel(0, -1, 0), NONE);
        due(x.quarrel(1, 0, 0), NONE);
        due(x.quarrel(2, 0, 0), NONE);
        due(x.quarrel(-1, 0, 0), NONE);
    }

    private void unlike() {
        office();
        x.company(0, 0);
        for (int v = 0; v < 3; v++) {
            x.verse(v, 0);
        }
        source(0, 0, 4, 8, 4, 8);
        source(1, 0, 12, 4, 8);
        source(2, 0, 4, 9);
        fix(0, 0, 0, 1, 1, 0, 2, 1, 3);
        fix(1, 0, 1, 1, 2, 2, 2);
        fix(2, 2, 0, 2, 1);
        due(x.count(10), 0);
        law(NONE, 0, 0, "s(v<1)");
        law(1, 0, 3999, "s");
        due(x.count(10), 0);
        law(NONE, 1, 3999, "s(v=0);s(v=1);s(v<2|v>1)");
        due(x.count(10), 0);
        x.now(1);
        due(x.count(10), 2);
        int[][] want = {{0, 0, 1, 1}, {0, 2, 1, 1}};
        for (int i = 0; i < 3; i++) {
            for (int what = 0; what < 4; what++) {
                due(x.unlike(i, what), i < 2 ? want[i][what] : NONE);
            }
        }
        due(x.unlike(-1, 0), NONE);
        due(x.unlike(0, 4), NONE);
        due(x.unlike(0, -1), NONE);
        // in one verse, too; one of the two tokens turned unlike is enough, and left is unlike to turned
        fix(0, 0, 0, 1, 1, 0, 2);
        due(x.count(10), 3);
        due(x.unlike(0, 2), 0);
        due(x.unlike(0, 3), 2);
        x.now(2);
        fix(0, 1, 1, 0, 0, 1, 3, 0, 2, 2, 8);
        due(x.count(10), 2);
        unlikeByOneClause();
        unlikeOfAll();
    }

    /** Both verses need one clause that holds for both; what held on another day does not count. */
    private void unlikeByOneClause() {
        x = new VerseCommittee();
        words("in", "god");
        x.company(255, 1);
        x.scholar(0, true);
        law("s(d=1);v0.0;v1.0");
        for (int v = 0; v < 2; v++) {
            x.verse(v, 0);
            source(v, 0, 4, 8);
            fix(v, v, 0, 0, 1);
        }
        law("s(v=0);s(v=1);w1.0=1");
        due(x.count(10), 0);
        x.now(1);
        due(x.count(10), 1);
        x.now(2);
        due(x.count(10), 0);
        for (int i = 2; i < 19; i++) {
            law(NONE, 0, 0, "s");
        }
        law("s(v=0);s(v=1);o0;o0;o0;o0;o0;o0;o0;o0;o0;o0;o0;o0;s(v=9);s(d=3)");
        due(x.count(10), 0);
        x.now(3);
        due(x.count(10), 1);
    }

    /** As many places as there can be: 60 verses of eight like tokens. */
    private void unlikeOfAll() {
        x = new VerseCommittee();
        words("in", "god");
        x.company(255, 1);
        x.scholar(0, true);
        law("v0.0;v1.0;s");
        for (int v = 0; v < 60; v++) {
            x.verse(v % 8, 0);
            source(v, 2, 4, 4, 4, 4, 4, 4, 4, 4);
            fix(v, v % 2, 0, v % 2, 1, v % 2, 2, v % 2, 3, v % 2, 4, v % 2, 5, v % 2, 6, v % 2, 7);
        }
        due(x.count(9), 60);
        due(x.count(10), 210 * 210);
        due(x.unlike(210 * 210 - 1, 0), 58);
        due(x.unlike(210 * 210 - 1, 1), 6);
        due(x.unlike(210 * 210 - 1, 2), 59);
        due(x.unlike(210 * 210 - 1, 3), 6);
        due(x.token(59, 2, 7), 4);
        due(x.fixed(59), 59);
        due(x.reads(9, 59, 7, false) && x.reads(8, 59, 7, false), true);
        due(x.missed(59), 128);
        due(x.missed(58), 0);
    }

    private void option() {
        words("a", "b", "c", "d", "e");
        due(x.option(-1, 0), false);
        due(x.option(40, 0), false);
        due(x.option(0, 5), false);
        due(x.option(0, -1), false);
        for (int w = 0; w < 4; w++) {
            due(x.option(39, w), true);
        }
        due(x.option(39, 4), false);
        due(x.option(39, 0), false);
        for (int sign = 0; sign < 5; sign++) {
            due(x.option(sign, sign), true);
            due(x.option(sign, sign), false);
        }
        due(x.option(6, 0), false);
        due(x.option(0, 1), true);
        due(x.count(8), 6);
    }

    private void apart() {
        due(x.apart(0, 0), false);
        due(x.apart(0, 40), false);
        due(x.apart(40, 0), false);
        due(x.apart(-1, 0), false);
        due(x.apart(0, -1), false);
        due(x.apart(0, 39), true);
        due(x.apart(39, 0), false);
        due(x.apart(0, 39), false);
        due(x.apart(0, 38), true);
        due(x.apart(32, 0), true);
        due(x.apart(0, 32), false);
    }

    private void costOffice() {
        office();
        x.verse(0, 0);
        x.verse(0, 0);
        source(0, 0, 4, 5, 8);
        source(1, 0, 4, 12);
        fix(0, 0, 0, 1, 0, 2, 1, 0, 2, 2, 8);
        fix(1, 1, 0, 1, 1);
        x.option(2, 0);
        x.option(1, 0);
        x.option(1, 1);
        x.option(1, 2);
        x.option(2, 1);
    }

    private void cost() {
        due(x.cost(0), 0);
        due(x.cost(1), NONE);
        costOffice();
        // sign 2 in the lowest place; slots of sign 1: in, god, sky and god
        due(x.cost(0), 3);
        due(x.cost(1), 4);
        due(x.cost(4), 2);
        due(x.cost(5), 3);
        due(x.cost(8), 3);
        due(x.cost(2), NONE);
        due(x.cost(12), NONE);
        due(x.cost(16), NONE);
        due(x.cost(-1), NONE);
        due(x.cost(-16), NONE);
        x.apart(1, 2);
        due(x.cost(0), -2);
        due(x.cost(4), 2);
        due(x.cost(5), -2);
        due(x.cost(2), NONE);
        // a clause of a form that does not stand there, of a sign without options, of no such verse
        law("w1.2=79;w3.*=79;w1.0=2(v=9)");
        due(x.cost(4), 2);
        law(NONE, 1, 1, "w1.1=2(v=0)");
        due(x.cost(4), 2);
        x.now(1);
        due(x.cost(4), -2);
        due(x.cost(8), 3);
        x.now(2);
        law("w2.*=1(v=1)");
        due(x.cost(4), 2);
        law("w1.*=79(1/v=1)");
        due(x.cost(4), -2);
    }

    private void one() {
        due(x.one(), 0);
        costOffice();
        due(x.one(), 4);
        x.apart(1, 2);
        due(x.one(), 4);
        law(NONE, 1, 1, "w2.*=1");
        x.now(1);
        due(x.one(), 1);
        x.now(2);
        law(NONE, 3, 3, "w1.0=79");
        x.now(3);
        due(x.one(), NONE);
        // of like ones the least row, by its first sign
        x = new VerseCommittee();
        words("a", "b");
        for (int sign = 0; sign < 6; sign++) {
            x.option(sign, 0);
            x.option(sign, 1);
        }
        due(x.one(), 0);
        x.apart(0, 1);
        due(x.one(), 4);
        x.apart(1, 2);
        x.apart(0, 2);
        due(x.one(), NONE);
        x.option(2, 0);
        word("c");
        x.option(2, 2);
        due(x.one(), 4 + 32);
        x.option(0, 2);
        due(x.one(), 4 + 32);
    }

    private void line() {
        words("mercy", "sky");
        x.company(255, 1);
        x.scholar(0, true);
        law("v0.0;v1.0");
        int[] measures = {3, 0, 4, 3, 3};
        for (int v = 0; v < 5; v++) {
            x.verse(0, measures[v]);
            source(v, 0, 4);
        }
        due(x.line(0), NONE);
        fix(4, 0, 0);
        fix(3, 0, 0, 1, 8);
        fix(2, 0, 0);
        fix(1, 0, 0);
        due(x.line(0), 2);
        due(x.line(1), 0);
        due(x.line(2), NONE);
        due(x.line(-1), NONE);
        fix(0, 1, 0);
        due(x.line(0), 4);
        due(x.line(1), 2);
        due(x.line(2), 0);
    }

    private void reads() {
        x.verse(0, 0);
        due(x.reads(10, 0, 0, true), false);
        due(x.reads(-1, 0, 0, true), false);
        due(x.reads(0, 1, 0, true), false);
        due(x.reads(0, -1, 0, true), false);
        due(x.reads(0, 0, 8, true), false);
        due(x.reads(0, 0, -1, true), false);
        due(x.reads(9, 0, 0, false), true);
        due(x.reads(8, 0, 0, false), true);
        due(x.missed(0), 1);
        x.reads(8, 0, 0, true);
        due(x.reads(9, 0, 7, false), true);
        due(x.reads(0, 0, 7, false), true);
        due(x.missed(0), 128);
        due(x.reads(0, 0, 7, true), true);
        due(x.missed(0), 0);
        due(x.reads(0, 0, 7, false), true);
        due(x.missed(0), 128);
    }

    private void missed() {
        x.verse(0, 0);
        x.verse(0, 0);
        due(x.missed(2), NONE);
        due(x.missed(-1), NONE);
        x.reads(0, 1, 0, false);
        due(x.missed(1), 0);
        for (int k = 0; k < 10; k++) {
            x.reads(k, 0, 7, k < 5);
            x.reads(k, 0, 3, k < 4);
            x.reads(k, 0, 0, k < 9);
        }
        due(x.missed(0), 8);
        due(x.missed(1), 0);
    }

    private void changes() {
        office();
        x.verse(0, 0);
        source(0, 0, 4, 8);
        x.now(1);
        fix(0, 0, 0, 1, 1, 2, 8);
        x.now(2);
        fix(0, 1, 1, 2, 0, 0, 0);
        due(x.changes(0, 0, 0), 0);
        due(x.changes(0, 0, 1), 3);
        due(x.changes(0, 2, 0), 3);
        due(x.changes(0, 1, 2), 2);
        due(x.changes(0, 2, 1), 2);
        due(x.changes(0, 1, 3), NONE);
        due(x.changes(0, 3, 1), NONE);
        due(x.changes(0, -1, 1), NONE);
        due(x.changes(1, 0, 0), NONE);
        due(x.changes(-1, 0, 0), NONE);
        x.now(3);
        fix(0, 1, 1, 1, 1, 1, 1, 1, 1, 1, 1, 1, 1, 1, 1, 1, 1, 1, 1, 1, 1, 1, 1, 1, 1);
        due(x.changes(0, 0, 3), 12);
        due(x.changes(0, 3, 2), 11);
    }

    private void printed() {
        office();
        x.verse(0, 0);
        due(x.printed(0, 0, 0), NONE);
        source(0, 0, 4, 8);
        fix(0, 2, 8, 0, 0, 1, 8, 1, 0);
        lay(bytes("yn"));
        x.spell(1, 0, 2);
        lay(bytes("heavenlyones"));
        x.spell(1, 2, 12);
        due(print(0, 0).equals("[sky] in [god] god"), true);
        due(print(1, 0).equals("[heavenlyones] yn [god] god"), true);
        due(print(3, 0).equals("[sky] in [god] god"), true);
        due(x.printed(0, 0, -1), NONE);
        due(x.printed(0, 0, 18), NONE);
        due(x.printed(4, 0, 0), NONE);
        due(x.printed(-1, 0, 0), NONE);
        due(x.printed(0, 1, 0), NONE);
        due(x.printed(0, -1, 0), NONE);
    }

    private void planOffice() {
        x.company(3, 2);
        x.company(2, 3);
        x.company(7, 0);
        for (int i = 0; i < 5; i++) {
            x.verse(0, 0);
        }
        for (int i = 0; i < 7; i++) {
            x.verse(1, 0);
        }
    }

    private void plan() {
        due(x.plan(NONE), 0);
        due(x.plan(0), NONE);
        planOffice();
        due(x.plan(NONE), NONE);
        x.centre(4);
        due(x.plan(NONE), 3);
        due(x.plan(0), 0);
        due(x.plan(1), 1);
        due(x.plan(2), NONE);
        due(x.plan(-2), NONE);
        x.centre(2);
        due(x.plan(NONE), 6);
        due(x.plan(1), 0);
        x.verse(2, 0);
        due(x.plan(NONE), NONE);
        due(x.plan(0), NONE);
        // six books at most: of eight the last two do not matter; of like rows the first book weighs most
        x = new VerseCommittee();
        x.company(63, 1);
        x.company(63, 1);
        x.centre(99);
        for (int book = 7; book >= 0; book--) {
            x.verse(book, 0);
            x.verse(book, 0);
        }
        due(x.plan(NONE), 6);
        int[] want = {0, 0, 0, 1, 1, 1, NONE, NONE};
        for (int i = 0; i < 8; i++) {
            due(x.plan(i), want[i]);
        }
        planOfWhatIsOpen();
    }

    private void planOfWhatIsOpen() {
        x = new VerseCommittee();
        office();
        x.centre(1);
        x.verse(3, 0);
        x.verse(3, 0);
        source(0, 0, 4);
        source(1, 0, 4);
        due(x.plan(NONE), 2);
        fix(0, 0, 0);
        due(x.plan(NONE), 1);
        due(x.plan(0), 0);
        fix(1, 0, 0);
        due(x.plan(NONE), 0);
        due(x.plan(0), NONE);
    }

    private void judge() {
        due(x.judge(0), 0);
        due(x.judge(1), NONE);
        due(x.judge(-1), NONE);
        planOffice();
        due(x.judge(6), NONE);
        x.centre(4);
        due(x.judge(6), 3);
        due(x.judge(0), 6);
        due(x.judge(1), NONE);
        due(x.judge(12), NONE);
        due(x.judge(18), NONE);
        due(x.judge(36), NONE);
        due(x.judge(42), NONE);
        due(x.judge(-6), NONE);
        due(x.judge(Integer.MIN_VALUE), NONE);
        x.centre(1);
        due(x.judge(6), 12);
    }

    private void check() {
        due(x.check(0), NONE);
        due(x.check(1), -2);
        due(x.check(-1), -2);
        due(x.check(61), -2);
        office();
        for (int v = 0; v < 3; v++) {
            x.verse(0, 0);
            source(v, 0, 4);
        }
        fix(2, 0, 0);
        fix(0, 0, 0);
        lay(0, 1, 2, 0);
        due(x.check(2), NONE);
        due(x.count(7), 0);
        lay(0, 1, 2, 0);
        due(x.check(1), 2);
        due(x.count(7), 0);
        lay(0, 1, 2, 0);
        due(x.check(0), 0);
        due(x.count(7), 0);
        lay(0, 1, 2, 0, 3, 0);
        due(x.check(3), 4);
        lay(0, 1, 2, 1);
        due(x.check(2), 3);
        lay(0, 1, 1, 0);
        due(x.check(2), 2);
        lay(0, 0, 1, 0);
        due(x.check(2), 1);
        lay(0, 1, 2, 0);
        due(x.check(11), -2);
        due(x.count(7), 20);
        due(x.check(1 << 30), -2);
        due(x.check(61), -2);
    }

    private void look() {
        office();
        x.scholar(0, false);
        x.verse(0, 0);
        x.verse(0, 0);
        source(1, 2, 4, 8, 12);
        x.now(2);
        render(1, 1, 2, 2, 1, 8);
        int[] want = {1, 1, 0, 2, 2, 2, 3, NONE, NONE, NONE, NONE};
        for (int what = 0; what < want.length; what++) {
            due(x.look(0, what), want[what]);
        }
        int[] slots = {2, 2, 1, 8, NONE, NONE};
        for (int i = 0; i < slots.length; i++) {
            due(x.look(0, 20 + i), slots[i]);
        }
        due(x.look(0, 19), NONE);
        due(x.look(0, -1), NONE);
        due(x.look(0, 44), NONE);
        due(x.look(0, Integer.MAX_VALUE), NONE);
        due(x.look(0, Integer.MIN_VALUE), NONE);
        due(x.look(1, 0), NONE);
        due(x.look(-1, 0), NONE);
        x.now(3);
        x.vote(1, 0, true);
        x.close(0);
        due(x.look(0, 2), 1);
        due(x.look(0, 3), 2);
        due(x.look(0, 7), 1);
        x.now(4);
        x.close(0);
        due(x.look(0, 2), 2);
        due(x.look(0, 3), 2);
        due(x.look(0, 8), 0);
        due(x.look(0, 9), 4);
        x.now(6);
        fix(1, 0, 0);
        due(x.look(0, 2), 4);
        due(x.look(0, 3), 2);
        due(x.look(0, 9), 4);
    }

    private void lookDayInEveryState() {
        words("in");
        x.company(1, 1);
        x.verse(0, 0);
        source(0, 0, 4);
        x.scholar(0, false);
        x.scholar(0, true);
        x.now(5);
        for (int r = 0; r < 3; r++) {
            render(0, 0, 0, 0);
        }
        x.now(6);
        render(0, 0, 0, 0);
        // 0 goes through all the states and back, 1 is dropped, 2 replaces 0, 3 is another day's
        x.vote(0, 0, true);
        due(x.close(0), 1);
        due(x.look(0, 3), 5);
        x.now(7);
        x.vote(1, 0, true);
        due(x.close(0), 2);
        due(x.look(0, 3), 5);
        due(x.look(0, 9), 7);
        due(x.close(1), 3);
        due(x.look(1, 3), 5);
        x.now(8);
        x.vote(1, 2, true);
        due(x.close(2), 1);
        x.vote(1, 2, true);
        due(x.close(2), 2);
        due(x.look(0, 2), 4);
        due(x.look(0, 3), 5);
        due(x.look(0, 9), 7);
        due(x.look(2, 9), 8);
        x.vote(0, 3, true);
        due(x.close(3), 1);
        x.now(9);
        due(x.voids(1), 1);
        due(x.look(2, 2), 0);
        due(x.look(2, 3), 5);
        due(x.look(2, 9), NONE);
        x.now(10);
        due(x.voids(0), 1);
        due(x.look(3, 2), 0);
        due(x.look(3, 3), 6);
        due(x.look(3, 9), NONE);
        due(x.look(4, 3), NONE);
    }

    private void count() {
        office();
        for (int v = 0; v < 4; v++) {
            x.verse(0, 0);
            source(v, 0, 4, 8);
        }
        fix(0, 0, 0);
        fix(1, 1, 0);
        fix(2, 1, 0);
        x.now(1);
        fix(2, 0, 1);
        render(0, 3, 0, 0);
        x.close(4);
        render(0, 3, 0, 0);
        law("v0.1;s");
        x.close(5);
        render(0, 3, 0, 0);
        x.option(3, 0);
        x.option(4, 0);
        x.feed(0, 0, 0, 0, 0);
        int[] want = {1, 4, 3, 1, 1, 2, 7, 20, 2, 3, 3, NONE};
        for (int what = 0; what < want.length; what++) {
            due(x.count(what), want[what]);
        }
        int[] states = {NONE, 1, 1, 3, 1, 1, NONE};
        for (int i = 0; i < states.length; i++) {
            due(x.count(19 + i), states[i]);
        }
        due(x.count(-1), NONE);
        due(x.count(Integer.MAX_VALUE), NONE);
    }
}
