/** For each promise of the document a method: ordinary inputs, some edges, wrong inputs. */
public final class PromisesTest extends Sentences {
    public static void main(String[] args) {
        run(PromisesTest.class);
    }

    // ------------------------------------------------------------------ the promises

    @Promise(of = 1, says = "A new object")
    void newObjectKept() {
        for (int what = 0; what <= 10; what++) {
            due(count(what), 0);
        }
        for (int what = 20; what <= 24; what++) {
            due(count(what), 0);
        }
        due(plan(NONE), 0);
        due(fixed(0), NONE);
        due(VerseCommittee.NONE, -1);
    }

    @Promise(of = 2, says = "now")
    void nowKept() {
        due(now(0), true);
        due(now(5), true);
        due(now(5), true);
        due(now(4), false);
        due(now(-1), false);
        due(now(4000), false);
        due(count(0), 5);
        due(now(3999), true);
        due(now(3998), false);
        due(count(0), 3999);
    }

    @Promise(of = 3, says = "feed")
    void feedKept() {
        for (int i = 1; i <= 10; i++) {
            due(feed(-1, 0x01020304, 0, i, 0x7f000000), 20 * i);
        }
        due(feed(0, 0, 0, 0, 0), NONE);
        due(count(7), 200);
        verse(0, 0);
        due(check(60), 0);
        feed(0x04080c10, 0x14181c9f, 0, 0, 0);
        due(source(0, 0, 8), true);
        due(token(0, 0, 0), 4);
        due(token(0, 0, 3), 16);
        due(token(0, 0, 4), 20);
        due(token(0, 0, 7), 159);
    }

    @Promise(of = 4, says = "verse")
    void verseKept() {
        due(verse(8, 0), NONE);
        due(verse(-1, 0), NONE);
        due(verse(0, -1), NONE);
        due(verse(0, 41), NONE);
        for (int v = 0; v < 60; v++) {
            due(verse(v % 8, v % 41), v);
        }
        due(verse(0, 0), NONE);
        due(count(1), 60);
    }

    @Promise(of = 5, says = "source")
    void sourceKept() {
        verse(0, 0);
        lay(0, 159, 3, 4, 5, 6, 7, 8, 160);
        due(source(1, 0, 1), false);
        due(source(-1, 0, 1), false);
        due(source(0, 3, 1), false);
        due(source(0, -1, 1), false);
        due(source(0, 0, 0), false);
        due(source(0, 0, 9), false);
        due(count(7), 20);
        due(source(0, 0, 8), true);
        due(count(7), 0);
        due(source(0, 0, 1), false);
        due(tokens(0, 1, 160), false);
        due(count(7), 20);
        due(token(0, 1, 0), NONE);
        due(token(0, 0, 1), 159);
        office();
        due(slots(0, 0, 0, 0), 0);
        due(tokens(0, 0, 12), true);
        due(token(0, 0, 0), 12);
        due(token(0, 0, 1), NONE);
        due(look(0, 6), 254);
    }

    @Promise(of = 6, says = "word")
    void wordKept() {
        due(newWord("abcdefghijkl"), 0);
        due(count(7), 0);
        due(newWord("abcdefghijklm"), NONE);
        due(count(7), 20);
        due(newWord("abcdefghijkl"), NONE);
        due(newWord("a"), 1);
        due(newWord("a"), NONE);
        due(count(7), 20);
        due(newWord("z"), 2);
        due(newWord("a`"), NONE);
        due(newWord("a{"), NONE);
        due(newWord("A"), NONE);
        due(newWord("aa"), 3);
        due(word(0), NONE);
        due(word(1), NONE);
        due(word(-1), NONE);
        for (int w = 4; w < 80; w++) {
            due(newWord("b" + (char) ('a' + w / 26) + (char) ('a' + w % 26)), w);
        }
        due(newWord("zzz"), NONE);
        due(count(2), 80);
    }

    @Promise(of = 7, says = "spell")
    void spellKept() {
        office();
        verse(0, 0);
        tokens(0, 0, 4, 8);
        fix(0, 0, 0, 1, 1);
        lay("ydd");
        due(spell(4, 0, 3), false);
        due(spell(-1, 0, 3), false);
        due(spell(0, 3, 3), false);
        due(spell(0, -1, 3), false);
        due(spell(0, 0, 0), false);
        due(spell(0, 0, 13), false);
        due(spell(0, 0, 4), false);
        due(count(7), 20);
        due(spell(3, 0, 3), true);
        due(count(7), 0);
        due(spell(3, 0, 3), false);
        due(print(3, 0).equals("ydd god"), true);
        due(print(0, 0).equals("in god"), true);
        lay("y");
        due(spell(3, 0, 1), true);
        lay("godwardsgods");
        due(spell(0, 1, 12), true);
        due(print(3, 0).equals("y god"), true);
        due(print(0, 0).equals("in godwardsgods"), true);
        due(newWord("ydd"), 3);
    }

    @Promise(of = 8, says = "syllables")
    void syllablesKept() {
        newWords("mercy", "love", "sky", "hmm", "queue", "aba", "yacht", "eye", "banana");
        int[] want = {2, 2, 1, 1, 1, 2, 1, 1, 3};
        for (int w = 0; w < want.length; w++) {
            due(syllables(w), want[w]);
        }
        lay("aoaxaxa");
        due(spell(0, 3, 7), true);
        due(syllables(3), 1);
        due(syllables(9), NONE);
        due(syllables(-1), NONE);
    }

    @Promise(of = 9, says = "company")
    void companyKept() {
        due(company(-1, 0), NONE);
        due(company(256, 0), NONE);
        due(company(0, -1), NONE);
        due(company(0, 100), NONE);
        for (int c = 0; c < 6; c++) {
            due(company(c == 0 ? 0 : 255, 99 * (c % 2)), c);
        }
        due(company(0, 0), NONE);
        due(count(3), 6);
        verse(7, 0);
        due(asks(0, 0, 5), 1);
    }

    @Promise(of = 10, says = "centre")
    void centreKept() {
        company(1, 1);
        verse(0, 0);
        due(plan(NONE), NONE);
        due(centre(-1), false);
        due(centre(100), false);
        due(centre(99), true);
        due(plan(NONE), 1);
        due(centre(0), true);
        due(plan(NONE), NONE);
    }

    @Promise(of = 11, says = "scholar")
    void scholarKept() {
        due(scholar(0, true), NONE);
        company(1, 1);
        due(scholar(1, true), NONE);
        due(scholar(-1, true), NONE);
        for (int s = 0; s < 24; s++) {
            due(scholar(0, s % 2 == 0), s);
        }
        due(scholar(0, false), NONE);
        due(count(4), 24);
    }

    @Promise(of = 12, says = "rules")
    void rulesKept() {
        company(1, 0);
        company(2, 0);
        lay("s");
        due(rules(2, 0, 0, 1), NONE);
        due(rules(-2, 0, 0, 1), NONE);
        due(rules(NONE, -1, 0, 1), NONE);
        due(rules(NONE, 0, 4000, 1), NONE);
        due(rules(NONE, 4000, 4000, 1), NONE);
        due(rules(NONE, 1, 0, 1), NONE);
        due(rules(NONE, 0, 0, 0), NONE);
        due(rules(NONE, 0, 0, 161), NONE);
        due(rules(NONE, 0, 0, 21), NONE);
        due(count(7), 20);
        due(rules(NONE, 0, 0, 1), 0);
        due(count(7), 0);
        due(law("q"), -1000);
        due(count(7), 0);
        due(count(5), 1);
        // 159 bytes of clauses: a text of 160 at most
        StringBuilder b = new StringBuilder("s(v=0");
        while (b.length() < 155) {
            b.append("|v=0");
        }
        while (b.length() < 158) {
            b.insert(2, "!");
        }
        b.insert(2, "!").append(")");
        due(b.length(), 160);
        lay(new int[180]);
        due(rules(NONE, 0, 0, 161), NONE);
        due(count(7), 180);
        due(law(b.toString()), 1);
        for (int i = 2; i < 20; i++) {
            due(law(i % 3 - 1, 3999, 3999, "s"), i);
        }
        due(law("s"), NONE);
        due(count(7), 20);
        due(law("q"), NONE);
        due(count(5), 20);
    }

    @Promise(of = 12, says = "FAULTS")
    void faults() {
        String[] texts = {"q", "w", "w40.0=0", "w39.3=79", "w1.4=0", "w1..=0", "w1.0=80", "w1.0=1(", "w123456", "w99999",
            "w12345a", "s(x=1)", "k01", "k013", "k010", "k00", "k3", "k012;", "v2.1", "v0", "v0.", "v0.101", "v1.100", "o",
            "o99999", "o999990", "s;", "s,s", ";s", "s;;s", "s((((((v=1))))))", "s(((((((v=1)))))))", "s(!!!![v]=1)",
            "s(!!!!![v]=1)", "s(!!!!!!v=1)", "s(!v=1&!v=1&!v=1&!v=1&!v=1&!v=1&!v=1)", "s(v=1)(v=1)", "s(v)", "s()", "s(v=1",
            "s(v=-1)", "s(v==1)", "s(v=1=1)", "s([v=1])", "s((v)=1)", "s([[[[[v]]]]]=1)", "s([[[[[[v]]]]]]=1)", "s(v=[v)",
            "s(v=v])", "s(v=123456)", "s(v=99999)", "s(v=00001)", "s(v=000001)", "s(v+*v=1)", "s(v&v=1)", "s(v=1&)", "s(v=1|)",
            "s (v=1)", "k012(v=1)", "o1(v=1)", "v0.1(v=1)", "w1.0=1s", "w1.*=1", "w1.**=1", "w.0=1", "w1=1", "s(!)", "S", "v01",
            "w00039.0=00079", "w000039.0=1", "s;q", "s(1=1;s", "s(v=1));", "s(((((((x", "s(((((()"};
        int[] want = {-1000, -1001, -3001, 0, -1003, -1003, -3005, -1007, -2006, -3001,
            -3001, -1002, -1003, -1003, -6003, -6002, -1001, -1005, -1001, -1002, -1003, -3003, 0, -1001,
            0, -2006, -1002, -1001, -1000, -1002, 0, -5007, 0,
            -5007, -5007, 0, -1006, -1003, -1002, -1005,
            -1004, -1004, -1005, -1004, -1004, 0, -5007, -1006,
            -1005, -2009, 0, 0, -2009, -1004, -1003, -1006, -1006,
            -1001, -1004, -1002, -1004, -1006, 0, -1004, -1001, -1002, -1003, -1000, -1002,
            0, -2006, -1002, -1005, -1006, -5007, -1007};
        due(texts.length, want.length);
        for (int i = 0; i < texts.length; i++) {
            fresh();
            int told = law(texts[i]);
            if (told != want[i]) {
                System.out.println("  " + texts[i]);
            }
            due(told, want[i]);
            due(count(5), told == 0 ? 1 : 0);
            due(count(7), 0);
        }
        String many = "s;s;s;s;s;s;s;s;s;s;s;s;s;s;s;s";
        fresh();
        due(law(many), 0);
        due(law(many + ";w1.0=1"), -4032);
        due(law(many + ";x"), -1032);
        due(law(many + ";"), -1032);
        due(holds(0, 15, 0, 0), NONE);
        verse(0, 0);
        due(holds(0, 15, 0, 0), 1);
        due(holds(0, 16, 0, 0), NONE);
    }

    private int ask(String condition, int v, int day) {
        return holds(law("s(" + condition + ")"), 0, v, day);
    }

    @Promise(of = 13, says = "holds")
    void holdsKept() {
        company(2, 0);
        verse(0, 7);
        verse(1, 9);
        tokens(1, 1, 4, 8, 12);
        due(ask("v=1", 1, 0), 1);
        due(ask("b=1&m=9&n=3&c=0&d=17", 1, 17), 1);
        due(ask("n=0&c=0-1", 0, 0), 1);
        due(ask("v=0&1/v=1", 1, 0), 0);
        due(ask("v=1&1/[v-1]=1", 1, 0), 2);
        due(ask("v=1|1/[v-1]=1", 1, 0), 1);
        due(ask("1%v=0|v=0", 0, 0), 2);
        due(ask("!1/v=0", 0, 0), 2);
        due(ask("7-3-2=2&7-[3-2]=6&2+3*4=14&7/2*2=6&7%4*2=6", 0, 0), 1);
        due(ask("0-7/2=0-3&[0-7]%2=0-1&[0-7]/2=0-3", 0, 0), 1);
        due(ask("99999*99999=14098*50000*2+65409", 0, 0), 1);
        due(ask("46341*46341<0", 0, 0), 1);
        due(ask("32768*65536/[0-1]=32768*65536", 0, 0), 1);
        due(ask("32768*65536%[0-1]=0", 0, 0), 1);
        due(ask("32768*65536-1>0", 0, 0), 1);
        fresh();
        company(2, 0);
        verse(0, 7);
        verse(1, 9);
        due(ask("v=1|v=0&m=6", 0, 0), 0);
        due(ask("v=0|v=0&1/v=1", 0, 0), 1);
        due(ask("!!!!!v=1", 0, 0), 1);
        due(ask("((((([v]=0)))))", 0, 0), NONE);
        due(ask("(((([v]=0&v<1))))&m=7", 0, 0), 1);
        due(ask("(((((v=0|v=1)&v<1))))&m=7", 0, 0), 1);
        due(ask("[[[[[v+7]]]]-1]*2=12", 0, 0), 1);
        due(ask("(v=1|v=0)&m=7", 0, 0), 1);
        due(ask("!v=1&m=7", 0, 0), 1);
        due(ask("!(v=1&m=7)", 0, 0), 1);
        due(ask("!!v=0", 0, 0), 1);
        due(ask("v<1", 0, 0), 1);
        due(ask("v>0|v>1", 0, 0), 0);
        due(ask("0-1<v", 0, 0), 1);
        fresh();
        verse(0, 0);
        for (int i = 0; i < 8; i++) {
            law("s(v=1)");
        }
        due(law(NONE, 5, 6, "w1.0=1;w1.0=1(d=4);k012;v0.1;o3"), 8);
        due(holds(8, 0, 0, 0), 1);
        due(holds(8, 1, 0, 4), 1);
        due(holds(8, 1, 0, 5), 0);
        due(holds(8, 2, 0, 0), 1);
        due(holds(8, 3, 0, 0), 1);
        due(holds(8, 4, 0, 0), 1);
        due(holds(8, 5, 0, 0), NONE);
        due(holds(8, -1, 0, 0), NONE);
        due(holds(9, 0, 0, 0), NONE);
        due(holds(-1, 0, 0, 0), NONE);
        due(holds(8, 0, 2, 0), NONE);
        due(holds(8, 0, -1, 0), NONE);
        due(holds(8, 0, 0, 4000), NONE);
        due(holds(8, 0, 0, -1), NONE);
        due(holds(8, 0, 0, 3999), 1);
    }

    @Promise(of = 14, says = "asks")
    void asksKept() {
        verse(0, 0);
        verse(1, 0);
        company(2, 0);
        company(3, 0);
        tokens(0, 2, 4, 8);
        tokens(0, 1, 4);
        due(asks(0, 0, 0), 50);
        due(asks(0, 0, 1), 50);
        due(asks(0, 0, 2), 0);
        due(asks(0, 0, 3), 1);
        due(asks(0, 0, 4), 1);
        due(asks(0, 0, 5), 1);
        due(asks(1, 0, 5), 0);
        due(asks(1, 0, 3), NONE);
        due(asks(1, 0, 4), 0);
        law(NONE, 2, 4, "v0.10;v0.20;v1.30;o5;o6;k210;k021");
        law(1, 3, 3, "v0.99;k201");
        due(asks(0, 1, 0), 50);
        due(asks(0, 2, 0), 20);
        due(asks(0, 3, 0), 99);
        due(asks(1, 3, 0), 20);
        due(asks(0, 3, 1), 30);
        due(asks(0, 4, 1), 30);
        due(asks(0, 5, 1), 50);
        due(asks(0, 4, 2), 6);
        due(asks(0, 2, 3), 2);
        due(asks(0, 2, 4), 2);
        due(asks(0, 5, 3), 1);
        due(asks(0, 0, 6), NONE);
        due(asks(0, 0, -1), NONE);
        due(asks(2, 0, 0), NONE);
        due(asks(-1, 0, 0), NONE);
        due(asks(0, 4000, 0), NONE);
        due(asks(0, -1, 0), NONE);
        fresh();
        verse(0, 0);
        law("o7");
        due(asks(0, 3999, 2), 7);
        due(asks(0, 0, 5), NONE);
        company(0, 0);
        law(0, 0, 3999, "o8");
        due(asks(0, 0, 2), 7);
        company(1, 0);
        due(asks(0, 0, 5), 1);
    }

    @Promise(of = 15, says = "token")
    void tokenKept() {
        verse(0, 0);
        tokens(0, 2, 4, 159);
        due(token(0, 2, 0), 4);
        due(token(0, 2, 1), 159);
        due(token(0, 2, 2), NONE);
        due(token(0, 2, -1), NONE);
        due(token(0, 1, 0), NONE);
        due(token(0, 3, 0), NONE);
        due(token(0, -1, 0), NONE);
        due(token(1, 2, 0), NONE);
        due(token(-1, 2, 0), NONE);
    }

    @Promise(of = 16, says = "differ")
    void differKept() {
        verse(0, 0);
        tokens(0, 0, 1, 2, 3, 4, 5, 6, 7, 8);
        tokens(0, 1, 2, 3, 4, 5, 6, 7, 8, 1);
        due(differ(0, 0, 1), 2);
        due(differ(0, 1, 0), 2);
        due(differ(0, 0, 0), 0);
        due(differ(0, 0, 2), NONE);
        due(differ(0, 2, 2), NONE);
        tokens(0, 2, 9);
        due(differ(0, 0, 2), 8);
        due(differ(0, 2, 1), 8);
        due(differ(0, 0, 3), NONE);
        due(differ(0, -1, 0), NONE);
        due(differ(1, 0, 0), NONE);
    }

    @Promise(of = 17, says = "render")
    void renderKept() {
        office();
        verse(0, 0);
        due(slots(0, 0, 0, 8), NONE);
        due(count(7), 20);
        tokens(0, 1, 4, 8, 12);
        due(slots(1, 0, 0, 0), NONE);
        due(slots(-1, 0, 0, 0), NONE);
        due(slots(0, 1, 0, 0), NONE);
        due(slots(0, 0, 3, 0), NONE);
        due(slots(0, 0, 0, 3), NONE);
        due(slots(0, 0, 0, 9), NONE);
        due(render(0, 0, 0), NONE);
        due(render(0, 0, 13), NONE);
        due(render(0, 0, 11), NONE);
        due(count(7), 20);
        due(slots(0, 0, 2, 2), 0);
        due(count(7), 0);
        due(look(0, 4), 1);
        int[] slots = new int[26];
        slots[21] = 8;
        slots[22] = 1;
        slots[23] = 2;
        lay(slots);
        due(render(0, 0, 13), NONE);
        due(count(7), 40);
        due(render(0, 0, 12), 1);
        lay(new int[20]);
        due(render(0, 0, 11), NONE);
        due(render(0, 0, 12), NONE);
        due(count(7), 20);
        due(render(0, 0, 10), 2);
        due(look(1, 5), 12);
        due(look(1, 42), 1);
        due(look(1, 41), 8);
        tokens(0, 0, 0, 0, 0, 0, 0, 0, 0, 0);
        due(slots(0, 0, 0, 7), 3);
        due(look(3, 4), 0);
        due(look(0, 4), 1);
        scholar(0, false);
        voids(1);
        due(slots(1, 0, 0, 0), NONE);
        for (int r = 4; r < 200; r++) {
            lay(0, 0);
            due(render(0, 0, 1), r);
        }
        due(slots(0, 0, 0, 0), NONE);
        due(count(6), 200);
    }

    @Promise(of = 18, says = "vote")
    void voteKept() {
        newWords("in");
        company(1, 1);
        company(2, 1);
        scholar(0, false);
        scholar(0, true);
        scholar(1, true);
        verse(0, 0);
        tokens(0, 0, 4);
        slots(0, 0, 0, 0);
        due(vote(0, 1, true), false);
        due(vote(0, -1, true), false);
        due(vote(3, 0, true), false);
        due(vote(-1, 0, true), false);
        due(vote(2, 0, true), false);
        due(vote(0, 0, true), true);
        due(vote(0, 0, false), true);
        due(vote(1, 0, false), true);
        due(vote(1, 0, true), true);
        due(close(0), 1);
        due(look(0, 7), 1);
        due(vote(0, 0, true), false);
        due(vote(1, 0, true), true);
        due(vote(2, 0, true), true);
        due(voids(0), 0);
        due(voids(2), 0);
        due(vote(2, 0, true), false);
        due(close(0), 2);
        due(look(0, 8), 1);
        due(vote(1, 0, true), false);
        slots(1, 0, 0, 0);
        due(vote(0, 1, true), false);
        due(vote(1, 1, false), true);
        due(close(1), 3);
        due(vote(1, 1, true), false);
        // a verse of no company has no scholars
        verse(7, 0);
        tokens(1, 0, 4);
        slots(1, 1, 0, 0);
        due(vote(1, 2, true), false);
        due(close(2), NONE);
    }

    @Promise(of = 19, says = "close")
    void closeKept() {
        newWords("in");
        company(1, 1);
        verse(0, 0);
        tokens(0, 0, 4);
        for (int s = 0; s < 3; s++) {
            scholar(0, false);
        }
        law(NONE, 0, 0, "v0.67");
        law(NONE, 1, 3999, "v0.66;v1.100;o2");
        due(close(0), NONE);
        for (int r = 0; r < 2; r++) {
            slots(0, 0, 0, 0);
            vote(0, r, true);
            vote(1, r, true);
        }
        due(close(0), 3);
        due(look(0, 7), 2);
        due(look(0, 8), NONE);
        due(close(0), NONE);
        now(1);
        due(close(1), 1);
        due(look(1, 3), 0);
        due(close(1), NONE);
        scholar(0, true);
        scholar(0, true);
        vote(3, 1, true);
        vote(4, 1, true);
        due(close(1), 2);
        due(look(1, 8), 2);
        // what is fixed may be opened again behind two days
        slots(0, 0, 0, 0);
        for (int s = 0; s < 5; s++) {
            vote(s, 2, true);
        }
        due(close(2), 1);
        vote(3, 2, true);
        vote(4, 2, true);
        now(3);
        due(close(2), NONE);
        due(look(2, 2), 1);
        due(look(2, 8), NONE);
        now(4);
        due(close(2), 2);
        due(look(1, 2), 4);
        due(look(1, 3), 0);
        due(look(1, 9), 1);
        due(look(2, 9), 4);
        due(fixed(0), 2);
        // a vote that would not go on is closed at once
        slots(0, 0, 0, 0);
        for (int s = 0; s < 5; s++) {
            vote(s, 3, true);
        }
        due(close(3), 1);
        vote(3, 3, true);
        due(close(3), 3);
        due(look(3, 7), 5);
        due(look(3, 8), 1);
        due(fixed(0), 2);
        due(close(4), NONE);
        due(close(-1), NONE);
    }

    @Promise(of = 20, says = "voids")
    void voidsKept() {
        newWords("in");
        company(1, 1);
        verse(0, 0);
        tokens(0, 0, 4);
        for (int s = 0; s < 4; s++) {
            scholar(0, s > 1);
        }
        due(voids(4), NONE);
        due(voids(-1), NONE);
        // rendering 0: passed by 0, 1 (yes) of four, fixed by 2, 3
        slots(0, 0, 0, 0);
        vote(0, 0, true);
        vote(1, 0, true);
        vote(2, 0, false);
        due(close(0), 1);
        vote(2, 0, true);
        due(close(0), 2);
        // rendering 1: dropped, with a vote of 2 kept
        slots(0, 0, 0, 0);
        vote(2, 1, true);
        due(close(1), 3);
        // rendering 2: proposed, with a vote of 2
        slots(0, 0, 0, 0);
        vote(2, 2, true);
        now(1);
        // a no of stage 0 goes, a yes of stage 1: one is left there, who said nothing
        due(voids(2), 1);
        due(voids(2), NONE);
        due(look(0, 2), 1);
        due(look(0, 3), 0);
        due(look(0, 7), 2);
        due(look(0, 8), NONE);
        due(look(0, 9), NONE);
        due(fixed(0), NONE);
        due(fixedOn(0, 0), 0);
        due(look(1, 7), 1);
        due(look(2, 2), 0);
        due(close(2), 3);
        due(look(2, 7), 0);
        vote(3, 0, true);
        due(close(0), 2);
        // stage 0 stood with 2 of 3; without one it is 1 of 2, which still is half
        due(voids(0), 0);
        due(look(0, 7), 1);
        due(look(0, 8), 1);
        // 0 of 1 is too few: back to the first stage, and the vote of stage 1 stays for later
        due(voids(1), 1);
        due(look(0, 2), 0);
        due(look(0, 7), NONE);
        due(look(0, 8), NONE);
        due(vote(3, 0, true), true);
        due(close(0), 1);
        due(close(0), 2);
        due(look(0, 8), 1);
        // none left
        due(voids(3), 1);
        due(look(0, 2), 0);
        due(close(0), NONE);
        voidsOfPassed();
    }

    private void voidsOfPassed() {
        fresh();
        newWords("in");
        company(1, 1);
        verse(0, 0);
        tokens(0, 0, 4);
        scholar(0, true);
        scholar(0, true);
        scholar(0, true);
        law("v0.0;v1.0;o0");
        // nobody voted: nothing is anybody's vote
        slots(0, 0, 0, 0);
        close(0);
        close(0);
        slots(0, 0, 0, 0);
        vote(0, 1, false);
        close(1);
        due(voids(0), 0);
        due(look(0, 2), 2);
        due(look(1, 2), 1);
        due(look(1, 7), 0);
        // replaced ones keep what they have
        vote(1, 1, true);
        now(1);
        due(close(1), 2);
        due(look(1, 8), 1);
        slots(1, 0, 0, 0);
        vote(1, 2, true);
        close(2);
        now(2);
        due(close(2), 2);
        due(look(1, 2), 4);
        due(voids(1), 0);
        due(look(1, 2), 4);
        due(look(1, 8), 1);
        due(look(2, 7), 0);
    }

    @Promise(of = 21, says = "fixed")
    void fixedKept() {
        office();
        verse(0, 0);
        verse(0, 0);
        tokens(1, 0, 4);
        due(fixed(1), NONE);
        slots(0, 1, 0, 0);
        close(0);
        due(fixed(1), NONE);
        close(0);
        due(fixed(1), 0);
        due(fixed(0), NONE);
        due(fixed(2), NONE);
        due(fixed(-1), NONE);
        now(1);
        fix(1, 1, 0);
        due(fixed(1), 1);
    }

    @Promise(of = 22, says = "fixedOn")
    void fixedOnKept() {
        office();
        verse(0, 0);
        tokens(0, 0, 4);
        now(3);
        fix(0, 0, 0);
        now(5);
        fix(0, 1, 0);
        now(8);
        int[] want = {NONE, NONE, NONE, 0, 0, 1, 1, 1, 1, NONE};
        for (int day = 0; day < want.length; day++) {
            due(fixedOn(0, day), want[day]);
        }
        due(fixedOn(0, -1), NONE);
        due(fixedOn(1, 8), NONE);
        due(fixedOn(-1, 8), NONE);
        // on the last day of what becomes void nothing is fixed at its end
        scholar(0, true);
        int r = slots(0, 0, 0, 0);
        vote(1, r, true);
        law("v1.1");
        close(r);
        vote(1, r, true);
        close(r);
        due(fixedOn(0, 8), 2);
        now(10);
        due(voids(1), 1);
        due(fixedOn(0, 9), 2);
        due(fixedOn(0, 10), NONE);
        due(fixedOn(0, 7), 1);
    }

    private void breachOffice() {
        office();
        verse(0, 0);
        verse(1, 0);
        tokens(0, 0, 4, 5, 4, 8);
        law("s;w1.*=1;w1.1=0(v=0);w1.1=0(1/v=0)");
        law(NONE, 1, 1, "w2.*=79");
        // token 0 by god, 1 by in and god, 2 is left, 3 by sky
        slots(0, 0, 1, 0, 0, 1, 1, 1, 2, 3, 0, 8);
    }

    @Promise(of = 23, says = "breaches")
    void breachesKept() {
        breachOffice();
        due(breaches(0), 3);
        now(1);
        due(breaches(0), 4);
        now(2);
        due(breaches(0), 3);
        tokens(0, 0, 8);
        due(breaches(0), 3);
        due(breaches(1), NONE);
        due(breaches(-1), NONE);
        fresh();
        office();
        company(0, 0);
        verse(0, 0);
        tokens(0, 0, 4);
        law(1, 0, 3999, "w1.0=1");
        due(fix(0, 0, 0), 0);
        due(breaches(0), 0);
        law(0, 0, 3999, "w1.0=1;w1.2=1;w2.0=1");
        due(breaches(0), 1);
    }

    @Promise(of = 24, says = "breach")
    void breachKept() {
        breachOffice();
        now(1);
        int[][] want = {{1, 1, 1}, {1, 1, 2}, {1, 2, 1}, {2, 0, 3}};
        for (int i = 0; i < want.length; i++) {
            for (int what = 0; what < 3; what++) {
                due(breach(0, i, what), want[i][what]);
            }
        }
        due(breach(0, 4, 0), NONE);
        due(breach(0, -1, 0), NONE);
        due(breach(0, 0, 3), NONE);
        due(breach(0, 0, -1), NONE);
        due(breach(1, 0, 0), NONE);
        due(breach(-1, 0, 0), NONE);
    }

    @Promise(of = 25, says = "quarrel")
    void quarrelKept() {
        verse(0, 0);
        verse(0, 0);
        tokens(0, 0, 8, 5);
        law("w1.*=1;w2.0=3;w1.1=2(v=0)");
        law("w1.1=1;w1.1=5(v=1);w2.*=3");
        law(NONE, 1, 1, "w2.0=4");
        int[][] today = {{1, 0, 0, 0, 2}, {1, 0, 2, 1, 0}};
        int[][] later = {{0, 0, 1, 2, 0}, {0, 1, 2, 2, 0}, {1, 0, 0, 0, 2}, {1, 0, 2, 1, 0}};
        for (int i = 0; i < 5; i++) {
            for (int what = 0; what < 5; what++) {
                due(quarrel(0, i, what), i < today.length ? today[i][what] : NONE);
            }
        }
        now(1);
        for (int i = 0; i < 5; i++) {
            for (int what = 0; what < 5; what++) {
                due(quarrel(0, i, what), i < later.length ? later[i][what] : NONE);
            }
        }
        due(quarrel(0, 0, 5), NONE);
        due(quarrel(0, 0, -1), NONE);
        due(quarrel(0, -1, 0), NONE);
        due(quarrel(1, 0, 0), NONE);
        due(quarrel(2, 0, 0), NONE);
        due(quarrel(-1, 0, 0), NONE);
    }

    @Promise(of = 26, says = "unlike")
    void unlikeKept() {
        office();
        company(0, 0);
        for (int v = 0; v < 3; v++) {
            verse(v, 0);
        }
        tokens(0, 0, 4, 8, 4, 8);
        tokens(1, 0, 12, 4, 8);
        tokens(2, 0, 4, 9);
        fix(0, 0, 0, 1, 1, 0, 2, 1, 3);
        fix(1, 0, 1, 1, 2, 2, 2);
        fix(2, 2, 0, 2, 1);
        due(count(10), 0);
        law(NONE, 0, 0, "s(v<1)");
        law(1, 0, 3999, "s");
        due(count(10), 0);
        law(NONE, 1, 3999, "s(v=0);s(v=1);s(v<2|v>1)");
        due(count(10), 0);
        now(1);
        due(count(10), 2);
        int[][] want = {{0, 0, 1, 1}, {0, 2, 1, 1}};
        for (int i = 0; i < 3; i++) {
            for (int what = 0; what < 4; what++) {
                due(unlike(i, what), i < 2 ? want[i][what] : NONE);
            }
        }
        due(unlike(-1, 0), NONE);
        due(unlike(0, 4), NONE);
        due(unlike(0, -1), NONE);
        // in one verse, too; one of the two tokens turned unlike is enough, and left is unlike to turned
        fix(0, 0, 0, 1, 1, 0, 2);
        due(count(10), 3);
        due(unlike(0, 2), 0);
        due(unlike(0, 3), 2);
        now(2);
        fix(0, 1, 1, 0, 0, 1, 3, 0, 2, 2, 8);
        due(count(10), 2);
        unlikeByOneClause();
        unlikeOfAll();
    }

    /** Both verses need one clause that holds for both; what held on another day does not count. */
    private void unlikeByOneClause() {
        fresh();
        newWords("in", "god");
        company(255, 1);
        scholar(0, true);
        law("s(d=1);v0.0;v1.0");
        for (int v = 0; v < 2; v++) {
            verse(v, 0);
            tokens(v, 0, 4, 8);
            fix(v, v, 0, 0, 1);
        }
        law("s(v=0);s(v=1);w1.0=1");
        due(count(10), 0);
        now(1);
        due(count(10), 1);
        now(2);
        due(count(10), 0);
        for (int i = 2; i < 19; i++) {
            law(NONE, 0, 0, "s");
        }
        law("s(v=0);s(v=1);o0;o0;o0;o0;o0;o0;o0;o0;o0;o0;o0;o0;s(v=9);s(d=3)");
        due(count(10), 0);
        now(3);
        due(count(10), 1);
    }

    /** As many places as there can be: 60 verses of eight like tokens. */
    private void unlikeOfAll() {
        fresh();
        newWords("in", "god");
        company(255, 1);
        scholar(0, true);
        law("v0.0;v1.0;s");
        for (int v = 0; v < 60; v++) {
            verse(v % 8, 0);
            tokens(v, 2, 4, 4, 4, 4, 4, 4, 4, 4);
            fix(v, v % 2, 0, v % 2, 1, v % 2, 2, v % 2, 3, v % 2, 4, v % 2, 5, v % 2, 6, v % 2, 7);
        }
        due(count(9), 60);
        due(count(10), 210 * 210);
        due(unlike(210 * 210 - 1, 0), 58);
        due(unlike(210 * 210 - 1, 1), 6);
        due(unlike(210 * 210 - 1, 2), 59);
        due(unlike(210 * 210 - 1, 3), 6);
        due(token(59, 2, 7), 4);
        due(fixed(59), 59);
        due(reads(9, 59, 7, false) && reads(8, 59, 7, false), true);
        due(missed(59), 128);
        due(missed(58), 0);
    }

    @Promise(of = 27, says = "option")
    void optionKept() {
        newWords("a", "b", "c", "d", "e");
        due(option(-1, 0), false);
        due(option(40, 0), false);
        due(option(0, 5), false);
        due(option(0, -1), false);
        for (int w = 0; w < 4; w++) {
            due(option(39, w), true);
        }
        due(option(39, 4), false);
        due(option(39, 0), false);
        for (int sign = 0; sign < 5; sign++) {
            due(option(sign, sign), true);
            due(option(sign, sign), false);
        }
        due(option(6, 0), false);
        due(option(0, 1), true);
        due(count(8), 6);
    }

    @Promise(of = 28, says = "apart")
    void apartKept() {
        due(apart(0, 0), false);
        due(apart(0, 40), false);
        due(apart(40, 0), false);
        due(apart(-1, 0), false);
        due(apart(0, -1), false);
        due(apart(0, 39), true);
        due(apart(39, 0), false);
        due(apart(0, 39), false);
        due(apart(0, 38), true);
        due(apart(32, 0), true);
        due(apart(0, 32), false);
    }

    private void costOffice() {
        office();
        verse(0, 0);
        verse(0, 0);
        tokens(0, 0, 4, 5, 8);
        tokens(1, 0, 4, 12);
        fix(0, 0, 0, 1, 0, 2, 1, 0, 2, 2, 8);
        fix(1, 1, 0, 1, 1);
        option(2, 0);
        option(1, 0);
        option(1, 1);
        option(1, 2);
        option(2, 1);
    }

    @Promise(of = 29, says = "cost")
    void costKept() {
        due(cost(0), 0);
        due(cost(1), NONE);
        costOffice();
        // sign 2 in the lowest place; slots of sign 1: in, god, sky and god
        due(cost(0), 3);
        due(cost(1), 4);
        due(cost(4), 2);
        due(cost(5), 3);
        due(cost(8), 3);
        due(cost(2), NONE);
        due(cost(12), NONE);
        due(cost(16), NONE);
        due(cost(-1), NONE);
        due(cost(-16), NONE);
        apart(1, 2);
        due(cost(0), -2);
        due(cost(4), 2);
        due(cost(5), -2);
        due(cost(2), NONE);
        // a clause of a form that does not stand there, of a sign without options, of no such verse
        law("w1.2=79;w3.*=79;w1.0=2(v=9)");
        due(cost(4), 2);
        law(NONE, 1, 1, "w1.1=2(v=0)");
        due(cost(4), 2);
        now(1);
        due(cost(4), -2);
        due(cost(8), 3);
        now(2);
        law("w2.*=1(v=1)");
        due(cost(4), 2);
        law("w1.*=79(1/v=1)");
        due(cost(4), -2);
    }

    @Promise(of = 30, says = "one")
    void oneKept() {
        due(one(), 0);
        costOffice();
        due(one(), 4);
        apart(1, 2);
        due(one(), 4);
        law(NONE, 1, 1, "w2.*=1");
        now(1);
        due(one(), 1);
        now(2);
        law(NONE, 3, 3, "w1.0=79");
        now(3);
        due(one(), NONE);
        // of like ones the least row, by its first sign
        fresh();
        newWords("a", "b");
        for (int sign = 0; sign < 6; sign++) {
            option(sign, 0);
            option(sign, 1);
        }
        due(one(), 0);
        apart(0, 1);
        due(one(), 4);
        apart(1, 2);
        apart(0, 2);
        due(one(), NONE);
        option(2, 0);
        newWord("c");
        option(2, 2);
        due(one(), 4 + 32);
        option(0, 2);
        due(one(), 4 + 32);
    }

    @Promise(of = 31, says = "line")
    void lineKept() {
        newWords("mercy", "sky");
        company(255, 1);
        scholar(0, true);
        law("v0.0;v1.0");
        int[] measures = {3, 0, 4, 3, 3};
        for (int v = 0; v < 5; v++) {
            verse(0, measures[v]);
            tokens(v, 0, 4);
        }
        due(line(0), NONE);
        fix(4, 0, 0);
        fix(3, 0, 0, 1, 8);
        fix(2, 0, 0);
        fix(1, 0, 0);
        due(line(0), 2);
        due(line(1), 0);
        due(line(2), NONE);
        due(line(-1), NONE);
        fix(0, 1, 0);
        due(line(0), 4);
        due(line(1), 2);
        due(line(2), 0);
    }

    @Promise(of = 32, says = "reads")
    void readsKept() {
        verse(0, 0);
        due(reads(10, 0, 0, true), false);
        due(reads(-1, 0, 0, true), false);
        due(reads(0, 1, 0, true), false);
        due(reads(0, -1, 0, true), false);
        due(reads(0, 0, 8, true), false);
        due(reads(0, 0, -1, true), false);
        due(reads(9, 0, 0, false), true);
        due(reads(8, 0, 0, false), true);
        due(missed(0), 1);
        reads(8, 0, 0, true);
        due(reads(9, 0, 7, false), true);
        due(reads(0, 0, 7, false), true);
        due(missed(0), 128);
        due(reads(0, 0, 7, true), true);
        due(missed(0), 0);
        due(reads(0, 0, 7, false), true);
        due(missed(0), 128);
    }

    @Promise(of = 33, says = "missed")
    void missedKept() {
        verse(0, 0);
        verse(0, 0);
        due(missed(2), NONE);
        due(missed(-1), NONE);
        reads(0, 1, 0, false);
        due(missed(1), 0);
        for (int k = 0; k < 10; k++) {
            reads(k, 0, 7, k < 5);
            reads(k, 0, 3, k < 4);
            reads(k, 0, 0, k < 9);
        }
        due(missed(0), 8);
        due(missed(1), 0);
    }

    @Promise(of = 34, says = "changes")
    void changesKept() {
        office();
        verse(0, 0);
        tokens(0, 0, 4, 8);
        now(1);
        fix(0, 0, 0, 1, 1, 2, 8);
        now(2);
        fix(0, 1, 1, 2, 0, 0, 0);
        due(changes(0, 0, 0), 0);
        due(changes(0, 0, 1), 3);
        due(changes(0, 2, 0), 3);
        due(changes(0, 1, 2), 2);
        due(changes(0, 2, 1), 2);
        due(changes(0, 1, 3), NONE);
        due(changes(0, 3, 1), NONE);
        due(changes(0, -1, 1), NONE);
        due(changes(1, 0, 0), NONE);
        due(changes(-1, 0, 0), NONE);
        now(3);
        fix(0, 1, 1, 1, 1, 1, 1, 1, 1, 1, 1, 1, 1, 1, 1, 1, 1, 1, 1, 1, 1, 1, 1, 1, 1);
        due(changes(0, 0, 3), 12);
        due(changes(0, 3, 2), 11);
    }

    @Promise(of = 35, says = "printed")
    void printedKept() {
        office();
        verse(0, 0);
        due(printed(0, 0, 0), NONE);
        tokens(0, 0, 4, 8);
        fix(0, 2, 8, 0, 0, 1, 8, 1, 0);
        lay("yn");
        spell(1, 0, 2);
        lay("heavenlyones");
        spell(1, 2, 12);
        due(print(0, 0).equals("[sky] in [god] god"), true);
        due(print(1, 0).equals("[heavenlyones] yn [god] god"), true);
        due(print(3, 0).equals("[sky] in [god] god"), true);
        due(printed(0, 0, -1), NONE);
        due(printed(0, 0, 18), NONE);
        due(printed(4, 0, 0), NONE);
        due(printed(-1, 0, 0), NONE);
        due(printed(0, 1, 0), NONE);
        due(printed(0, -1, 0), NONE);
    }

    private void planOffice() {
        company(3, 2);
        company(2, 3);
        company(7, 0);
        for (int i = 0; i < 5; i++) {
            verse(0, 0);
        }
        for (int i = 0; i < 7; i++) {
            verse(1, 0);
        }
    }

    @Promise(of = 36, says = "plan")
    void planKept() {
        due(plan(NONE), 0);
        due(plan(0), NONE);
        planOffice();
        due(plan(NONE), NONE);
        centre(4);
        due(plan(NONE), 3);
        due(plan(0), 0);
        due(plan(1), 1);
        due(plan(2), NONE);
        due(plan(-2), NONE);
        centre(2);
        due(plan(NONE), 6);
        due(plan(1), 0);
        verse(2, 0);
        due(plan(NONE), NONE);
        due(plan(0), NONE);
        // six books at most: of eight the last two do not matter; of like rows the first book weighs most
        fresh();
        company(63, 1);
        company(63, 1);
        centre(99);
        for (int book = 7; book >= 0; book--) {
            verse(book, 0);
            verse(book, 0);
        }
        due(plan(NONE), 6);
        int[] want = {0, 0, 0, 1, 1, 1, NONE, NONE};
        for (int i = 0; i < 8; i++) {
            due(plan(i), want[i]);
        }
        planOfWhatIsOpen();
    }

    private void planOfWhatIsOpen() {
        fresh();
        office();
        centre(1);
        verse(3, 0);
        verse(3, 0);
        tokens(0, 0, 4);
        tokens(1, 0, 4);
        due(plan(NONE), 2);
        fix(0, 0, 0);
        due(plan(NONE), 1);
        due(plan(0), 0);
        fix(1, 0, 0);
        due(plan(NONE), 0);
        due(plan(0), NONE);
    }

    @Promise(of = 37, says = "judge")
    void judgeKept() {
        due(judge(0), 0);
        due(judge(1), NONE);
        due(judge(-1), NONE);
        planOffice();
        due(judge(6), NONE);
        centre(4);
        due(judge(6), 3);
        due(judge(0), 6);
        due(judge(1), NONE);
        due(judge(12), NONE);
        due(judge(18), NONE);
        due(judge(36), NONE);
        due(judge(42), NONE);
        due(judge(-6), NONE);
        due(judge(Integer.MIN_VALUE), NONE);
        centre(1);
        due(judge(6), 12);
    }

    @Promise(of = 38, says = "check")
    void checkKept() {
        due(check(0), NONE);
        due(check(1), -2);
        due(check(-1), -2);
        due(check(61), -2);
        office();
        for (int v = 0; v < 3; v++) {
            verse(0, 0);
            tokens(v, 0, 4);
        }
        fix(2, 0, 0);
        fix(0, 0, 0);
        lay(0, 1, 2, 0);
        due(check(2), NONE);
        due(count(7), 0);
        lay(0, 1, 2, 0);
        due(check(1), 2);
        due(count(7), 0);
        lay(0, 1, 2, 0);
        due(check(0), 0);
        due(count(7), 0);
        lay(0, 1, 2, 0, 3, 0);
        due(check(3), 4);
        lay(0, 1, 2, 1);
        due(check(2), 3);
        lay(0, 1, 1, 0);
        due(check(2), 2);
        lay(0, 0, 1, 0);
        due(check(2), 1);
        lay(0, 1, 2, 0);
        due(check(11), -2);
        due(count(7), 20);
        due(check(1 << 30), -2);
        due(check(61), -2);
    }

    @Promise(of = 39, says = "look")
    void lookKept() {
        office();
        scholar(0, false);
        verse(0, 0);
        verse(0, 0);
        tokens(1, 2, 4, 8, 12);
        now(2);
        slots(1, 1, 2, 2, 1, 8);
        int[] want = {1, 1, 0, 2, 2, 2, 3, NONE, NONE, NONE, NONE};
        for (int what = 0; what < want.length; what++) {
            due(look(0, what), want[what]);
        }
        int[] slots = {2, 2, 1, 8, NONE, NONE};
        for (int i = 0; i < slots.length; i++) {
            due(look(0, 20 + i), slots[i]);
        }
        due(look(0, 19), NONE);
        due(look(0, -1), NONE);
        due(look(0, 44), NONE);
        due(look(0, Integer.MAX_VALUE), NONE);
        due(look(0, Integer.MIN_VALUE), NONE);
        due(look(1, 0), NONE);
        due(look(-1, 0), NONE);
        now(3);
        vote(1, 0, true);
        close(0);
        due(look(0, 2), 1);
        due(look(0, 3), 2);
        due(look(0, 7), 1);
        now(4);
        close(0);
        due(look(0, 2), 2);
        due(look(0, 3), 2);
        due(look(0, 8), 0);
        due(look(0, 9), 4);
        now(6);
        fix(1, 0, 0);
        due(look(0, 2), 4);
        due(look(0, 3), 2);
        due(look(0, 9), 4);
    }

    @Promise(of = 39, says = "3 the DAY of it")
    void lookDayInEveryState() {
        newWords("in");
        company(1, 1);
        verse(0, 0);
        tokens(0, 0, 4);
        scholar(0, false);
        scholar(0, true);
        now(5);
        for (int r = 0; r < 3; r++) {
            slots(0, 0, 0, 0);
        }
        now(6);
        slots(0, 0, 0, 0);
        // 0 goes through all the states and back, 1 is dropped, 2 replaces 0, 3 is another day's
        vote(0, 0, true);
        due(close(0), 1);
        due(look(0, 3), 5);
        now(7);
        vote(1, 0, true);
        due(close(0), 2);
        due(look(0, 3), 5);
        due(look(0, 9), 7);
        due(close(1), 3);
        due(look(1, 3), 5);
        now(8);
        vote(1, 2, true);
        due(close(2), 1);
        vote(1, 2, true);
        due(close(2), 2);
        due(look(0, 2), 4);
        due(look(0, 3), 5);
        due(look(0, 9), 7);
        due(look(2, 9), 8);
        vote(0, 3, true);
        due(close(3), 1);
        now(9);
        due(voids(1), 1);
        due(look(2, 2), 0);
        due(look(2, 3), 5);
        due(look(2, 9), NONE);
        now(10);
        due(voids(0), 1);
        due(look(3, 2), 0);
        due(look(3, 3), 6);
        due(look(3, 9), NONE);
        due(look(4, 3), NONE);
    }

    @Promise(of = 40, says = "count")
    void countKept() {
        office();
        for (int v = 0; v < 4; v++) {
            verse(0, 0);
            tokens(v, 0, 4, 8);
        }
        fix(0, 0, 0);
        fix(1, 1, 0);
        fix(2, 1, 0);
        now(1);
        fix(2, 0, 1);
        slots(0, 3, 0, 0);
        close(4);
        slots(0, 3, 0, 0);
        law("v0.1;s");
        close(5);
        slots(0, 3, 0, 0);
        option(3, 0);
        option(4, 0);
        feed(0, 0, 0, 0, 0);
        int[] want = {1, 4, 3, 1, 1, 2, 7, 20, 2, 3, 3, NONE};
        for (int what = 0; what < want.length; what++) {
            due(count(what), want[what]);
        }
        int[] states = {NONE, 1, 1, 3, 1, 1, NONE};
        for (int i = 0; i < states.length; i++) {
            due(count(19 + i), states[i]);
        }
        due(count(-1), NONE);
        due(count(Integer.MAX_VALUE), NONE);
    }
}
