import java.util.ArrayList;
import java.util.List;

/**
 * "A call that is refused changes nothing; the tape stays then, whatever the reason". Two committees are led the
 * same way; one of them is then asked for what it must refuse. Behind that both have to answer alike whatever can
 * be asked: what is told at once, what comes of further calls, and what the tape has.
 */
public final class RefusalsTest extends Sentences {
    private static final int NO = 0;
    private static final int YES = 1;
    private static final int[] LETTERS = bytesOf("abcdefghijklmnopqrstuvwxyz");
    private static final int[] SLOTS = {0, 0, 1, 1, 2, 8, 0, 0, 1, 0, 2, 0, 0, 8, 1, 8, 2, 8, 3, 0, 3, 8, 3, 0};
    private static final int[] TEXT = bytesOf("s(v=0);w1.0=2(v=1|d>1);o4;v0.30;v1.20;k201");
    private static final List<Probe> TOLD = new ArrayList<>();
    private static final List<Deed> TRIED = new ArrayList<>();
    private static final List<Deed> TAPED = new ArrayList<>();

    private final StringBuilder heard = new StringBuilder();

    private interface Deed {
        void by(RefusalsTest it);
    }

    private interface Probe {
        long of(RefusalsTest it);
    }

    public static void main(String[] args) {
        tell();
        tryMore();
        useTape();
        run(RefusalsTest.class);
    }

    // ------------------------------------------------------------------ two committees side by side

    /** In the world, with three tapes one after the other. */
    private void refused(Probe call, int want) {
        for (int[] tape : new int[][] {LETTERS, SLOTS, TEXT}) {
            refused(tape, call, want);
        }
    }

    private void refused(int[] tape, Probe call, int want) {
        refused(it -> it.world(), tape, call, want);
    }

    private void refused(Deed setUp, int[] tape, Probe call, int want) {
        Deed all = it -> {
            setUp.by(it);
            if (tape.length > 0) {
                it.lay(tape);
            }
        };
        int at = 0;
        while (at < TOLD.size()) {
            RefusalsTest calm = new RefusalsTest();
            RefusalsTest asked = new RefusalsTest();
            lead(all, calm, asked, call, want);
            int from = at;
            while (at < TOLD.size() && asked.callsLeft() > 0) {
                calm.hear(TOLD.get(at).of(calm));
                asked.hear(TOLD.get(at).of(asked));
                at++;
            }
            due("from " + from + ":" + asked.heard, "from " + from + ":" + calm.heard);
        }
        List<Deed> more = new ArrayList<>(TRIED);
        more.addAll(TAPED);
        for (int i = 0; i < more.size(); i++) {
            RefusalsTest calm = new RefusalsTest();
            RefusalsTest asked = new RefusalsTest();
            lead(all, calm, asked, call, want);
            more.get(i).by(calm);
            more.get(i).by(asked);
            due("more " + i + ":" + asked.heard, "more " + i + ":" + calm.heard);
        }
    }

    private void lead(Deed all, RefusalsTest calm, RefusalsTest asked, Probe call, int want) {
        all.by(calm);
        all.by(asked);
        due(call.of(asked), want);
        // a call that changes nothing anyhow, so that both have as many calls behind them
        calm.count(0);
    }

    private void hear(long answer) {
        heard.append(' ').append(answer);
    }

    private void hear(boolean answer) {
        hear(answer ? YES : NO);
    }

    private static int of(boolean answer) {
        return answer ? YES : NO;
    }

    // ------------------------------------------------------------------ the world

    /** Some of all there is, RENDERINGS in each STATE, today is DAY 2. */
    private void world() {
        newWords("in", "god", "sky", "aba");
        respell(1, 0, "yn");
        company(3, 2);
        company(6, 3);
        centre(4);
        for (int s = 0; s < 6; s++) {
            scholar(s == 3 || s == 4 ? 1 : 0, s > 0 && s < 4);
        }
        verse(0, 3);
        verse(1, 0);
        verse(2, 2);
        verse(3, 40);
        verse(0, 5);
        tokens(0, 0, 4, 8, 4, 8);
        tokens(0, 1, 4);
        tokens(1, 2, 12, 4, 8);
        tokens(2, 0, 159);
        tokens(3, 1, 0, 4);
        law("w1.*=1;s;w1.1=0(v=0);w2.0=2(1/v=1)");
        law(1, 0, 9, "o2;k210;v1.40");
        law(NONE, 5, 9, "v0.90;w1.0=3");
        pass(0, 0, new int[] {0, 0, 1, 1, 2, 8}, 0, 1);
        settle(0, 1, 3);
        now(1);
        pass(1, 0, new int[] {1, 0, 2, 1, 0, 2, 1, 3}, 0, 1);
        settle(1, 2, 3);
        pass(1, 1, new int[] {1, 1, 0, 2}, 0, 2);
        vote(3, 2, true);
        pass(3, 2, new int[] {0, 0}, 3);
        settle(3, 1, 2);
        slots(0, 0, 0, 0);
        vote(0, 4, true);
        vote(1, 4, false);
        slots(0, 1, 0, 0);
        close(5);
        voids(5);
        option(1, 1);
        option(1, 0);
        option(2, 2);
        option(2, 1);
        apart(1, 2);
        reads(0, 0, 2, false);
        reads(1, 0, 2, false);
        reads(2, 0, 2, true);
        now(2);
    }

    private void pass(int s, int v, int[] pairs, int... ayes) {
        int r = slots(s, v, pairs);
        settle(r, ayes);
    }

    private void settle(int r, int... ayes) {
        for (int s : ayes) {
            vote(s, r, true);
        }
        close(r);
    }

    @Promise(of = 1, says = "the world of these tests has RENDERINGS in each STATE")
    void worldIsRich() {
        world();
        due(count(7), 0);
        int[] states = {4, 2, 1, 2, 0, 3};
        for (int r = 0; r < states.length; r++) {
            due(look(r, 2), states[r]);
        }
        due(count(10), 1);
        due(breaches(0), 2);
        due(line(0), 1);
        due(missed(0), 4);
        due(one(), 0);
        due(cost(0), 2);
        due(cost(4), -2);
        due(plan(NONE), NONE);
        int[] all = {2, 5, 4, 2, 6, 3, 6, 0, 2, 2, 1};
        for (int what = 0; what < all.length; what++) {
            due(count(what), all[what]);
        }
    }

    /** What is told at once. */
    private static void tell() {
        for (int what = 0; what < 25; what++) {
            int w = what;
            TOLD.add(it -> it.count(w));
        }
        for (int v = 0; v < 5; v++) {
            tellOfVerse(v);
        }
        for (int r = 0; r < 6; r++) {
            tellOfRendering(r);
        }
        for (int i = 0; i < 12; i++) {
            int k = i;
            TOLD.add(it -> it.holds(k / 4, k % 4, 0, 1));
            TOLD.add(it -> it.holds(k / 4, k % 4, 1, 6));
            TOLD.add(it -> it.unlike(k / 4, k % 4));
            TOLD.add(it -> it.cost(k));
            TOLD.add(it -> it.judge(k));
            TOLD.add(it -> it.line(k));
            TOLD.add(it -> it.syllables(k));
            TOLD.add(it -> it.plan(k - 1));
        }
        TOLD.add(it -> it.one());
    }

    private static void tellOfVerse(int v) {
        for (int i = 0; i < 15; i++) {
            int k = i;
            TOLD.add(it -> it.token(v, k / 5, k % 5));
        }
        for (int i = 0; i < 6; i++) {
            int k = i;
            TOLD.add(it -> it.asks(v, 2, k));
            TOLD.add(it -> it.asks(v, 6, k));
            TOLD.add(it -> it.quarrel(v, 0, k));
        }
        for (int i = 0; i < 3; i++) {
            int k = i;
            TOLD.add(it -> it.differ(v, k, (k + 1) % 3));
            TOLD.add(it -> it.fixedOn(v, k));
            TOLD.add(it -> it.changes(v, k, (k + 1) % 3));
        }
        for (int i = 0; i < 9; i++) {
            int k = i;
            TOLD.add(it -> it.printed(0, v, k));
            TOLD.add(it -> it.printed(1, v, k));
        }
        TOLD.add(it -> it.fixed(v));
        TOLD.add(it -> it.missed(v));
    }

    private static void tellOfRendering(int r) {
        for (int what = 0; what < 28; what++) {
            int w = what;
            TOLD.add(it -> it.look(r, w));
        }
        TOLD.add(it -> it.breaches(r));
        for (int i = 0; i < 6; i++) {
            int k = i;
            TOLD.add(it -> it.breach(r, k / 3, k % 3));
        }
    }

    private void lookAtAll() {
        for (int r = 0; r < 6 && callsLeft() > 4; r++) {
            for (int what : new int[] {2, 7, 8, 9}) {
                hear(look(r, what));
            }
        }
    }

    /** What comes of further calls: what votes are there, who is VOID, what is kept of VOTES, what is told APART. */
    private static void tryMore() {
        TRIED.add(it -> {
            for (int r = 0; r < 6; r++) {
                it.hear(it.close(r));
            }
            it.lookAtAll();
            it.hear(it.now(3));
            for (int r = 0; r < 6; r++) {
                it.hear(it.close(r));
            }
            it.lookAtAll();
        });
        for (int first = 0; first < 6; first++) {
            int from = first;
            TRIED.add(it -> {
                for (int i = 0; i < 6 && it.callsLeft() > 30; i++) {
                    it.hear(it.voids((from + i) % 6));
                    it.lookAtAll();
                }
            });
        }
        TRIED.add(it -> {
            for (int i = 0; i < 36; i++) {
                it.hear(it.vote(i % 6, i / 6, i % 5 > 0));
            }
            for (int r = 0; r < 6; r++) {
                it.hear(it.close(r));
            }
            it.lookAtAll();
        });
        TRIED.add(it -> {
            for (int i = 0; i < 12; i++) {
                it.hear(it.option(i / 4, i % 4));
                it.hear(it.cost(i));
            }
            for (int i = 0; i < 16; i++) {
                it.hear(it.apart(i / 4, i % 4));
            }
            it.hear(it.one());
        });
        TRIED.add(it -> {
            for (int k = 0; k < 10; k++) {
                it.hear(it.reads(k, 0, 2, k % 3 == 0));
                it.hear(it.missed(0));
            }
        });
        tryNumbers();
    }

    private static void tryNumbers() {
        TRIED.add(it -> {
            it.hear(it.now(1));
            it.hear(it.now(2));
            it.hear(it.verse(3, 1));
            it.hear(it.company(8, 1));
            it.hear(it.scholar(1, true));
            it.hear(it.check(0));
            it.hear(it.count(7));
            it.hear(it.newWord("zz"));
            it.hear(it.newWord("yn"));
            it.hear(it.law("w0.*=1;s(v>1)"));
            it.hear(it.slots(0, 0, 1, 0));
            it.hear(it.asks(3, 2, 5));
            it.hear(it.look(6, 0));
            it.hear(it.holds(3, 1, 0, 0));
            it.hear(it.plan(NONE));
            for (int what = 0; what < 11; what++) {
                it.hear(it.count(what));
            }
        });
    }

    /** What the tape has, asked by all that can use it up. */
    private static void useTape() {
        TAPED.add(it -> {
            it.hear(it.source(0, 1, 8));
            it.hear(it.count(7));
            for (int i = 0; i < 9; i++) {
                it.hear(it.token(0, 1, i));
            }
        });
        TAPED.add(it -> {
            it.hear(it.word(12));
            it.hear(it.word(2));
            it.hear(it.count(7));
            it.hear(it.count(2));
        });
        TAPED.add(it -> {
            it.hear(it.spell(0, 0, 11));
            it.hear(it.spell(0, 0, 2));
            it.hear(it.count(7));
            for (int i = 0; i < 30; i++) {
                it.hear(it.printed(0, 0, i));
            }
        });
        TAPED.add(it -> {
            it.hear(it.render(0, 0, 12));
            it.hear(it.render(0, 0, 10));
            it.hear(it.count(7));
            for (int what = 0; what < 44; what++) {
                it.hear(it.look(6, what));
            }
        });
        TAPED.add(it -> {
            it.hear(it.rules(0, 0, 3, 46));
            it.hear(it.rules(0, 0, 3, 6));
            it.hear(it.count(7));
            for (int j = 0; j < 7; j++) {
                it.hear(it.holds(3, j, 0, 0));
            }
            for (int what = 0; what < 4; what++) {
                it.hear(it.asks(0, 0, what));
            }
        });
        TAPED.add(it -> {
            it.hear(it.check(20));
            it.hear(it.check(2));
            it.hear(it.count(7));
        });
        TAPED.add(it -> {
            int has = it.feed(0x61626364, 1, 2, 3, 4);
            it.hear(has);
            it.hear(it.rules(0, 0, 3, Math.min(160, has)));
            it.hear(it.count(7));
        });
    }

    // ------------------------------------------------------------------ what is refused

    @Promise(of = 2, says = "false: no such one, it is past")
    void nowRefused() {
        for (int day : new int[] {1, 0, -1, 4000, MOST, LEAST}) {
            refused(it -> of(it.now(day)), NO);
        }
    }

    @Promise(of = 3, says = "NONE if that would be more than 200")
    void feedRefused() {
        int[] full = new int[200];
        for (int[] head : new int[][] {LETTERS, SLOTS, TEXT}) {
            System.arraycopy(head, 0, full, 0, head.length);
            refused(full, it -> it.feed(-1, -1, -1, -1, -1), NONE);
        }
    }

    @Promise(of = 4, says = "NONE: no such BOOK, MEASURE, 60 are there")
    void verseRefused() {
        for (int odd : new int[] {-1, 8, MOST, LEAST}) {
            refused(it -> it.verse(odd, 0), NONE);
        }
        for (int odd : new int[] {-1, 41, MOST, LEAST}) {
            refused(it -> it.verse(0, odd), NONE);
        }
        refused(it -> {
            it.world();
            for (int v = 5; v < 60; v++) {
                it.verse(0, 0);
            }
        }, LETTERS, it -> it.verse(1, 1), NONE);
    }

    @Promise(of = 5, says = "false: no such ones, n, no TOKEN, it has not so many (the tape stays)")
    void sourceRefused() {
        for (int odd : new int[] {-1, 5, MOST, LEAST}) {
            refused(it -> of(it.source(odd, 0, 1)), NO);
        }
        for (int odd : new int[] {-1, 3, MOST, LEAST}) {
            refused(it -> of(it.source(0, odd, 1)), NO);
        }
        for (int odd : new int[] {-1, 0, 9, MOST, LEAST}) {
            refused(it -> of(it.source(0, 0, odd)), NO);
        }
        refused(new int[] {4, 8, 12, 16, 20, 24, 28, 160}, it -> of(it.source(0, 0, 8)), NO);
        refused(new int[] {255, 8, 12, 16, 20, 24, 28, 160}, it -> of(it.source(0, 0, 1)), NO);
        refused(new int[0], it -> of(it.source(0, 0, 1)), NO);
    }

    @Promise(of = 6, says = "NONE: other signs, such a one is there, 80 are, no such n, it has not so many (the tape stays)")
    void wordRefused() {
        refused(bytesOf("abCdefghijklm"), it -> it.word(3), NONE);
        refused(bytesOf("{bcdefghijklm"), it -> it.word(1), NONE);
        refused(bytesOf("godabcdefghij"), it -> it.word(3), NONE);
        refused(bytesOf("abaabcdefghij"), it -> it.word(3), NONE);
        refused(new int[0], it -> it.word(1), NONE);
        for (int odd : new int[] {-1, 0, 13, MOST, LEAST}) {
            refused(it -> it.word(odd), NONE);
        }
        refused(it -> {
            it.world();
            for (int w = 4; w < 80; w++) {
                it.newWord("b" + (char) ('a' + w / 26) + (char) ('a' + w % 26));
            }
        }, LETTERS, it -> it.word(5), NONE);
    }

    @Promise(of = 7, says = "false: no such ones, other signs (the tape stays)")
    void spellRefused() {
        for (int odd : new int[] {-1, 4, MOST, LEAST}) {
            refused(it -> of(it.spell(odd, 0, 2)), NO);
            refused(it -> of(it.spell(1, odd, 2)), NO);
        }
        for (int odd : new int[] {-1, 0, 13, MOST, LEAST}) {
            refused(it -> of(it.spell(1, 0, odd)), NO);
        }
        refused(bytesOf("abCdefghijklm"), it -> of(it.spell(1, 0, 3)), NO);
        refused(bytesOf("`bcdefghijklm"), it -> of(it.spell(1, 0, 1)), NO);
        refused(new int[0], it -> of(it.spell(1, 0, 1)), NO);
    }

    @Promise(of = 9, says = "NONE: no such ones, 6 are there")
    void companyRefused() {
        for (int odd : new int[] {-1, 256, MOST, LEAST}) {
            refused(it -> it.company(odd, 0), NONE);
        }
        for (int odd : new int[] {-1, 100, MOST, LEAST}) {
            refused(it -> it.company(8, odd), NONE);
        }
        refused(it -> {
            it.world();
            for (int c = 2; c < 6; c++) {
                it.company(0, 0);
            }
        }, LETTERS, it -> it.company(255, 99), NONE);
    }

    @Promise(of = 10, says = "false: no such one")
    void centreRefused() {
        for (int odd : new int[] {-1, 100, MOST, LEAST}) {
            refused(it -> {
                it.world();
                it.company(255, 1);
            }, LETTERS, it -> of(it.centre(odd)), NO);
        }
    }

    @Promise(of = 11, says = "NONE: no such COMPANY, 24 are there")
    void scholarRefused() {
        for (int odd : new int[] {-1, 2, MOST, LEAST}) {
            refused(it -> it.scholar(odd, true), NONE);
        }
        refused(it -> {
            it.world();
            for (int s = 6; s < 24; s++) {
                it.scholar(s % 2, s % 3 == 0);
            }
        }, LETTERS, it -> it.scholar(0, true), NONE);
    }

    @Promise(of = 12, says = "NONE: no such ones, n, 20 are there, it has not so many (the tape stays)")
    void rulesRefused() {
        for (int odd : new int[] {-2, 2, MOST, LEAST}) {
            refused(it -> it.rules(odd, 0, 9, 6), NONE);
        }
        for (int odd : new int[] {-1, 4000, MOST, LEAST}) {
            refused(it -> it.rules(NONE, odd, 9, 6), NONE);
            refused(it -> it.rules(NONE, 0, odd, 6), NONE);
        }
        refused(it -> it.rules(NONE, 9, 8, 6), NONE);
        for (int odd : new int[] {-1, 0, 61, 161, MOST, LEAST}) {
            refused(it -> it.rules(NONE, 0, 9, odd), NONE);
        }
        refused(new int[0], it -> it.rules(NONE, 0, 9, 1), NONE);
        refused(it -> {
            it.world();
            for (int i = 3; i < 20; i++) {
                it.law("s(d=9)");
            }
        }, TEXT, it -> it.rules(NONE, 0, 9, 6), NONE);
    }

    @Promise(of = 12, says = "(by a FAULT of RULES it is empty): all else stays")
    void rulesWithFault() {
        String[] texts = {"q", "v0.1;o9;k210;w1.0=3;s;q", "k210;s(v=1", "w1.0=80", "o123456", "s(((((((v=1)))))))", "v0.0;v1.0;k00"};
        int[] want = {-1000, -1022, -1010, -3005, -2006, -5007, -6012};
        for (int i = 0; i < texts.length; i++) {
            String text = texts[i];
            int told = want[i];
            for (int n = 0; n < TRIED.size(); n++) {
                RefusalsTest calm = new RefusalsTest();
                RefusalsTest asked = new RefusalsTest();
                calm.world();
                asked.world();
                due(asked.law(text), told);
                due(asked.count(7), 0);
                TRIED.get(n).by(calm);
                TRIED.get(n).by(asked);
                due(text + asked.heard, text + calm.heard);
            }
            for (int at = 0; at < TOLD.size();) {
                RefusalsTest calm = new RefusalsTest();
                RefusalsTest asked = new RefusalsTest();
                calm.world();
                asked.world();
                due(asked.law(text), told);
                while (at < TOLD.size() && asked.callsLeft() > 0) {
                    calm.hear(TOLD.get(at).of(calm));
                    asked.hear(TOLD.get(at).of(asked));
                    at++;
                }
                due(text + asked.heard, text + calm.heard);
            }
        }
    }

    @Promise(of = 17, says = "NONE: no such ones, no SOURCE, VOID, 200 are there, it has not so many (the tape stays)")
    void renderRefused() {
        for (int odd : new int[] {-1, 6, MOST, LEAST}) {
            refused(SLOTS, it -> it.render(odd, 0, 2), NONE);
        }
        for (int odd : new int[] {-1, 5, MOST, LEAST}) {
            refused(SLOTS, it -> it.render(0, odd, 2), NONE);
        }
        refused(SLOTS, it -> it.render(0, 4, 2), NONE);
        refused(SLOTS, it -> it.render(5, 0, 2), NONE);
        for (int odd : new int[] {-1, 0, 13, 1 << 30, (1 << 30) + 1, MOST, LEAST}) {
            refused(SLOTS, it -> it.render(0, 0, odd), NONE);
        }
        refused(bytesOf("a"), it -> it.render(0, 0, 11), NONE);
        refused(new int[0], it -> it.render(0, 0, 1), NONE);
        refused(new int[] {0, 0, 4, 0}, it -> it.render(0, 0, 2), NONE);
        refused(new int[] {0, 0, 0, 4}, it -> it.render(0, 0, 2), NONE);
        refused(new int[] {0, 0, 0, 9}, it -> it.render(0, 0, 2), NONE);
        refused(LETTERS, it -> it.render(0, 0, 2), NONE);
    }

    @Promise(of = 17, says = "NONE: 200 are there (the tape stays)")
    void renderRefusedWhenFull() {
        refused(it -> {
            it.newWord("in");
            it.company(1, 1);
            it.scholar(0, true);
            it.verse(0, 0);
            it.tokens(0, 0, 4, 8);
            for (int r = 0; r < 200; r++) {
                it.feed(0, 0, 0, 0, 0);
                it.render(0, 0, 1);
            }
        }, SLOTS, it -> it.render(0, 0, 1), NONE);
    }

    @Promise(of = 18, says = "false: no such ones, not PROPOSED or PASSED, not a SCHOLAR of the stage, VOID")
    void voteRefused() {
        for (int odd : new int[] {-1, 6, 32, MOST, LEAST}) {
            refused(it -> of(it.vote(odd, 4, true)), NO);
            refused(it -> of(it.vote(0, odd, true)), NO);
        }
        // REPLACED, FIXED, FIXED, DROPPED; not of the stage; VOID
        int[][] pairs = {{0, 0}, {1, 1}, {3, 3}, {0, 5}, {3, 4}, {4, 4}, {0, 2}, {4, 2}, {5, 4}, {5, 2}};
        for (int[] pair : pairs) {
            refused(LETTERS, it -> of(it.vote(pair[0], pair[1], true)), NO);
            refused(LETTERS, it -> of(it.vote(pair[0], pair[1], false)), NO);
        }
    }

    @Promise(of = 19, says = "NONE: no such one, not PROPOSED or PASSED, the stage has no SCHOLARS, it can't be FIXED yet")
    void closeRefused() {
        for (int r : new int[] {-1, 6, 200, MOST, LEAST, 0, 1, 3, 5}) {
            refused(it -> it.close(r), NONE);
        }
        refused(it -> {
            it.world();
            it.slots(0, 3, 0, 0);
        }, LETTERS, it -> it.close(6), NONE);
        refused(it -> {
            it.world();
            it.vote(1, 4, true);
            it.close(4);
            it.law("o1;v1.0");
        }, LETTERS, it -> it.close(4), NONE);
        refused(it -> {
            it.world();
            it.voids(1);
            it.voids(2);
            it.voids(3);
            it.close(2);
        }, LETTERS, it -> it.close(2), NONE);
    }

    @Promise(of = 20, says = "NONE: no such one, VOID already")
    void voidsRefused() {
        for (int s : new int[] {-1, 6, 24, 32, MOST, LEAST, 5}) {
            refused(it -> it.voids(s), NONE);
        }
        refused(it -> {
            it.world();
            it.voids(0);
        }, LETTERS, it -> it.voids(0), NONE);
    }

    @Promise(of = 27, says = "false: no such ones, it is, four are, six other SIGNS have some")
    void optionRefused() {
        for (int odd : new int[] {-1, 40, MOST, LEAST}) {
            refused(it -> of(it.option(odd, 0)), NO);
        }
        for (int odd : new int[] {-1, 4, MOST, LEAST}) {
            refused(it -> of(it.option(1, odd)), NO);
            refused(it -> of(it.option(7, odd)), NO);
        }
        refused(LETTERS, it -> of(it.option(1, 1)), NO);
        refused(LETTERS, it -> of(it.option(2, 1)), NO);
        refused(it -> {
            it.world();
            it.option(1, 2);
            it.option(1, 3);
            it.newWord("zy");
        }, LETTERS, it -> of(it.option(1, 4)), NO);
        refused(it -> {
            it.world();
            for (int sign = 3; sign < 7; sign++) {
                it.option(sign, 0);
            }
        }, LETTERS, it -> of(it.option(0, 0)), NO);
    }

    @Promise(of = 28, says = "false: no such two, they are")
    void apartRefused() {
        for (int odd : new int[] {-1, 40, MOST, LEAST}) {
            refused(it -> of(it.apart(odd, 0)), NO);
            refused(it -> of(it.apart(0, odd)), NO);
        }
        refused(LETTERS, it -> of(it.apart(1, 1)), NO);
        refused(LETTERS, it -> of(it.apart(1, 2)), NO);
        refused(LETTERS, it -> of(it.apart(2, 1)), NO);
    }

    @Promise(of = 32, says = "false: no such ones")
    void readsRefused() {
        for (int odd : new int[] {-1, 10, MOST, LEAST}) {
            refused(it -> of(it.reads(odd, 0, 2, false)), NO);
            refused(it -> of(it.reads(2, odd, 2, false)), NO);
            refused(it -> of(it.reads(2, 0, odd, false)), NO);
        }
        refused(LETTERS, it -> of(it.reads(2, 0, 8, false)), NO);
        refused(LETTERS, it -> of(it.reads(2, 5, 2, false)), NO);
    }

    @Promise(of = 38, says = "-2: no such n, it has not so many (the tape stays)")
    void checkRefused() {
        for (int odd : new int[] {-1, 61, 31, 1 << 30, (1 << 30) + 1, MOST, LEAST}) {
            refused(it -> it.check(odd), -2);
        }
        refused(new int[0], it -> it.check(1), -2);
        refused(LETTERS, it -> it.check(21), -2);
    }

    @Promise(of = 13, says = "what is asked and not there changes nothing: NONE")
    void askedForNothing() {
        int[] odd = {-2, 100, MOST, LEAST};
        for (int k : odd) {
            refused(LETTERS, it -> it.syllables(k), NONE);
            refused(LETTERS, it -> it.holds(k, 0, 0, 0), NONE);
            refused(LETTERS, it -> it.holds(0, k, 0, 0), NONE);
            refused(LETTERS, it -> it.holds(0, 0, k, 0), NONE);
            refused(LETTERS, it -> it.asks(k, 0, 0), NONE);
            refused(LETTERS, it -> it.asks(0, 0, k), NONE);
            refused(LETTERS, it -> it.token(k, 0, 0), NONE);
            refused(LETTERS, it -> it.token(0, 0, k), NONE);
            refused(LETTERS, it -> it.differ(0, k, 0), NONE);
            refused(LETTERS, it -> it.fixed(k), NONE);
            refused(LETTERS, it -> it.fixedOn(0, k), NONE);
            refused(LETTERS, it -> it.breaches(k), NONE);
            refused(LETTERS, it -> it.breach(0, k, 0), NONE);
            refused(LETTERS, it -> it.quarrel(0, k, 0), NONE);
            refused(LETTERS, it -> it.unlike(k, 0), NONE);
            refused(LETTERS, it -> it.cost(k), NONE);
            refused(LETTERS, it -> it.line(k), NONE);
            refused(LETTERS, it -> it.missed(k), NONE);
            refused(LETTERS, it -> it.changes(0, k, 0), NONE);
            refused(LETTERS, it -> it.printed(k, 0, 0), NONE);
            refused(LETTERS, it -> it.plan(k), NONE);
            refused(LETTERS, it -> it.judge(k), NONE);
            refused(LETTERS, it -> it.look(k, 0), NONE);
            refused(LETTERS, it -> it.count(k), NONE);
        }
    }

    @Promise(of = 13, says = "what is asked and there changes nothing, either")
    void askedForSomething() {
        refused(SLOTS, it -> it.syllables(3), 2);
        refused(SLOTS, it -> it.holds(0, 3, 0, 5), 2);
        refused(SLOTS, it -> it.asks(2, 9, 1), 40);
        refused(SLOTS, it -> it.token(2, 0, 0), 159);
        refused(SLOTS, it -> it.differ(0, 0, 1), 3);
        refused(SLOTS, it -> it.fixed(0), 1);
        refused(SLOTS, it -> it.fixedOn(0, 0), 0);
        refused(SLOTS, it -> it.breaches(0), 2);
        refused(SLOTS, it -> it.breach(0, 0, 2), 0);
        refused(SLOTS, it -> it.quarrel(0, 0, 0), NONE);
        refused(SLOTS, it -> it.unlike(0, 3), 2);
        refused(SLOTS, it -> it.cost(0), 2);
        refused(SLOTS, it -> it.cost(4), -2);
        refused(SLOTS, it -> it.one(), 0);
        refused(SLOTS, it -> it.line(0), 1);
        refused(SLOTS, it -> it.missed(0), 4);
        refused(SLOTS, it -> it.changes(0, 0, 1), 3);
        refused(SLOTS, it -> it.printed(1, 0, 8), 'y');
        refused(SLOTS, it -> it.plan(NONE), NONE);
        refused(SLOTS, it -> it.judge(0), NONE);
        refused(SLOTS, it -> it.look(0, 9), 0);
        refused(SLOTS, it -> it.count(10), 1);
        refused(SLOTS, it -> of(it.now(2)), YES);
    }
}
