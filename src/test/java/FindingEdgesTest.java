/** The edges of BREACHES, QUARRELS and UNLIKE twos, of ONE WORD and LINES: promises 23 to 31. */
public final class FindingEdgesTest extends Sentences {
    public static void main(String[] args) {
        run(FindingEdgesTest.class);
    }

    private void dueBreach(int r, int i, int rules, int clause, int token) {
        due(breach(r, i, 0), rules);
        due(breach(r, i, 1), clause);
        due(breach(r, i, 2), token);
    }

    private void dueQuarrel(int v, int i, int token, int rules, int clause, int otherRules, int otherClause) {
        due(quarrel(v, i, 0), token);
        due(quarrel(v, i, 1), rules);
        due(quarrel(v, i, 2), clause);
        due(quarrel(v, i, 3), otherRules);
        due(quarrel(v, i, 4), otherClause);
    }

    private void dueUnlike(int i, int verse, int place, int otherVerse, int otherPlace) {
        due(unlike(i, 0), verse);
        due(unlike(i, 1), place);
        due(unlike(i, 2), otherVerse);
        due(unlike(i, 3), otherPlace);
    }

    // ------------------------------------------------------------------ promise 23, 24: breaches

    @Promise(of = 23, says = "NONE: no such one")
    void breachesOfNoSuchOne() {
        office();
        due(breaches(0), NONE);
        verse(0, 0);
        tokens(0, 0, 4);
        slots(0, 0, 0, 0);
        due(breaches(0), 0);
        for (int odd : new int[] {1, -1, 200, MOST, LEAST}) {
            due(breaches(odd), NONE);
        }
    }

    @Promise(of = 23, says = "the TOKEN is of that SIGN and FORM (a digit 0 to 3, or * for all)")
    void breachesOfSignAndForm() {
        office();
        verse(0, 0);
        tokens(0, 0, 0, 1, 2, 3, 4, 156, 159);
        slots(0, 0, 0, 8);
        String[] texts = {"w0.0=1", "w0.3=1", "w0.*=1", "w1.0=1", "w1.1=1", "w39.0=1", "w39.3=1", "w39.2=1", "w39.*=1", "w38.*=1"};
        int[] want = {1, 1, 4, 1, 0, 1, 1, 0, 2, 0};
        int sum = 0;
        for (int i = 0; i < texts.length; i++) {
            law(texts[i]);
            sum += want[i];
            due(breaches(0), sum);
        }
        dueBreach(0, 0, 1, 0, 0);
        dueBreach(0, 1, 2, 0, 3);
        dueBreach(0, 2, 3, 0, 0);
        dueBreach(0, 5, 3, 0, 3);
        dueBreach(0, 6, 4, 0, 4);
        dueBreach(0, 10, 9, 0, 6);
    }

    @Promise(of = 23, says = "not each WORD by which it is TURNED is T (or it is LEFT)")
    void breachesByTurns() {
        office();
        verse(0, 0);
        tokens(0, 0, 4, 4, 4, 4, 4, 4, 8);
        // by T; by T twice; by T and another; by another and T; by another; LEFT
        slots(0, 0, 1, 0, 1, 1, 1, 1, 1, 2, 0, 2, 0, 3, 1, 3, 2, 4, 1, 8, 0, 8);
        law("w1.0=1");
        due(breaches(0), 4);
        for (int i = 0; i < 4; i++) {
            dueBreach(0, i, 1, 0, i + 2);
        }
        dueBreach(0, 4, NONE, NONE, NONE);
    }

    @Promise(of = 23, says = "T (0 to 79): a WORD that is not there yet, too")
    void breachesOfAWordToCome() {
        office();
        verse(0, 0);
        tokens(0, 0, 4);
        slots(0, 0, 1, 0);
        law("w1.0=79");
        due(breaches(0), 1);
        law("w1.0=0");
        due(breaches(0), 2);
    }

    @Promise(of = 23, says = "the CLAUSE holds: not where it is REFUSED, and not of other CLAUSES")
    void breachesOfClausesThatHold() {
        office();
        verse(0, 0);
        verse(0, 0);
        tokens(0, 0, 4);
        tokens(1, 0, 4);
        slots(0, 0, 0, 0);
        slots(0, 1, 0, 0);
        law("s;w1.0=1(v=1);k012;w1.0=1(1/v=1);w1.0=1(v=0);v0.0;o1");
        due(breaches(0), 1);
        dueBreach(0, 0, 1, 4, 0);
        due(breaches(1), 2);
        dueBreach(1, 0, 1, 1, 0);
        dueBreach(1, 1, 1, 3, 0);
    }

    @Promise(of = 23, says = "BREACHES of a RENDERING today: RULES in FORCE for its VERSE")
    void breachesOfToday() {
        office();
        company(1, 1);
        verse(0, 0);
        tokens(0, 0, 4);
        slots(0, 0, 0, 0);
        law(NONE, 2, 3, "w1.0=1");
        law(0, 3, 4, "w1.0=1");
        law(1, 0, LAST_DAY, "w1.0=1");
        law(NONE, 0, LAST_DAY, "w1.0=1(d=5)");
        int[] want = {0, 0, 1, 2, 1, 1, 0};
        for (int day = 0; day < want.length; day++) {
            now(day);
            due(breaches(0), want[day]);
        }
    }

    @Promise(of = 23, says = "by TOKENS (of the RENDERING); C asks of THE SOURCE")
    void breachesOfItsOwnTokens() {
        office();
        verse(0, 0);
        tokens(0, 0, 4);
        slots(0, 0, 0, 0);
        law("w1.0=1(n=1);w1.0=1(n=2);w2.0=1");
        due(breaches(0), 1);
        tokens(0, 0, 8, 8);
        due(breaches(0), 1);
        dueBreach(0, 0, 1, 1, 0);
    }

    @Promise(of = 23, says = "of a RENDERING in each STATE")
    void breachesInEachState() {
        office();
        law("w1.0=1");
        verse(0, 0);
        tokens(0, 0, 4);
        fix(0, 0, 0);
        now(1);
        fix(0, 0, 0);
        slots(0, 0, 0, 0);
        close(2);
        slots(0, 0, 0, 0);
        law("v0.1");
        close(3);
        slots(0, 0, 0, 0);
        int[] states = {4, 2, 1, 3, 0};
        for (int r = 0; r < states.length; r++) {
            due(look(r, 2), states[r]);
            due(breaches(r), 1);
        }
    }

    @Promise(of = 23, says = "RULES in FORCE: the 16th CLAUSE of others that stand beside them does not count")
    void breachesNotOfTheRulesBeside() {
        for (String clause : new String[] {"w1.0=2", "s"}) {
            fresh();
            office();
            option(1, 0);
            for (int v = 0; v < 2; v++) {
                verse(0, 0);
                tokens(v, 0, 4, 8);
                fix(v, v, 0);
            }
            String text = times(15, "s(v=9);") + clause;
            law(NONE, 5, 5, text);
            law("s(v=9);w1.0=0(v=9)");
            law(NONE, 5, 5, text);
            due(breaches(0), 0);
            due(quarrel(0, 0, 0), NONE);
            due(count(10), 0);
            due(cost(0), 1);
        }
    }

    @Promise(of = 24, says = "as many as there can be: 20 RULES of 16 CLAUSES, 8 TOKENS")
    void breachesOfAll() {
        newWord("in");
        company(1, 1);
        scholar(0, false);
        verse(0, 0);
        tokens(0, 0, 0, 1, 2, 3, 0, 1, 2, 3);
        String text = times(15, "w0.*=1;") + "w0.*=2";
        for (int i = 0; i < 20; i++) {
            due(law(text), i);
        }
        slots(0, 0, 0, 0);
        due(breaches(0), 2560);
        dueBreach(0, 0, 0, 0, 0);
        dueBreach(0, 7, 0, 0, 7);
        dueBreach(0, 8, 0, 1, 0);
        dueBreach(0, 127, 0, 15, 7);
        dueBreach(0, 128, 1, 0, 0);
        dueBreach(0, 2559, 19, 15, 7);
        dueBreach(0, 2560, NONE, NONE, NONE);
    }

    @Promise(of = 24, says = "NONE for others")
    void breachOfOthers() {
        office();
        verse(0, 0);
        tokens(0, 0, 4);
        slots(0, 0, 0, 0);
        law("w1.0=1");
        dueBreach(0, 0, 1, 0, 0);
        dueBreach(0, 1, NONE, NONE, NONE);
        for (int odd : new int[] {-1, -2, 3, MOST, LEAST}) {
            due(breach(odd, 0, 0), NONE);
            due(breach(0, odd, 0), NONE);
            due(breach(0, 0, odd), NONE);
        }
        due(breach(1, 0, 0), NONE);
    }

    // ------------------------------------------------------------------ promise 25: quarrel

    @Promise(of = 25, says = "twos of w CLAUSES that ask for unlike WORDS of a TOKEN")
    void quarrelsOfTwos() {
        verse(0, 0);
        tokens(0, 0, 4);
        law("w1.0=1");
        dueQuarrel(0, 0, NONE, NONE, NONE, NONE, NONE);
        law("w1.0=1;w1.1=2;w2.0=2");
        dueQuarrel(0, 0, NONE, NONE, NONE, NONE, NONE);
        law("s;w1.*=0");
        dueQuarrel(0, 0, 0, 0, 0, 2, 1);
        dueQuarrel(0, 1, 0, 1, 0, 2, 1);
        dueQuarrel(0, 2, NONE, NONE, NONE, NONE, NONE);
    }

    @Promise(of = 25, says = "by TOKENS, of each by the first CLAUSE of the two (by RULES, then CLAUSES), then the second one")
    void quarrelsInTheirOrder() {
        verse(0, 0);
        tokens(0, 0, 4, 8, 4);
        law("w1.0=1;w1.0=2;w2.0=3");
        law("w1.0=3;w2.0=4");
        int[][] want = {{0, 0, 0, 0, 1}, {0, 0, 0, 1, 0}, {0, 0, 1, 1, 0}, {1, 0, 2, 1, 1}, {2, 0, 0, 0, 1}, {2, 0, 0, 1, 0},
            {2, 0, 1, 1, 0}};
        for (int i = 0; i < want.length; i++) {
            dueQuarrel(0, i, want[i][0], want[i][1], want[i][2], want[i][3], want[i][4]);
        }
        dueQuarrel(0, want.length, NONE, NONE, NONE, NONE, NONE);
    }

    @Promise(of = 25, says = "(of RULES in FORCE, that hold there)")
    void quarrelsInForce() {
        company(1, 1);
        company(3, 1);
        verse(0, 0);
        verse(1, 0);
        tokens(0, 0, 4);
        tokens(1, 0, 4);
        law("w1.0=0");
        law(NONE, 2, 3, "w1.0=1");
        law(1, 0, LAST_DAY, "w1.0=2");
        law("w1.0=3(1/d=9|d=0);w1.0=4(d=5)");
        for (int day = 0; day < 6; day++) {
            now(day);
            due(quarrel(0, 0, 3), day == 2 || day == 3 ? 1 : day == 5 ? 3 : NONE);
            due(quarrel(0, 1, 3), NONE);
            due(quarrel(1, 0, 3), day == 2 || day == 3 ? 1 : 2);
        }
    }

    @Promise(of = 25, says = "a TOKEN of its SOURCE, today; none if there is none")
    void quarrelsOfTheSource() {
        verse(0, 0);
        law("w1.0=1;w1.0=2;w2.0=1;w2.0=2");
        law(NONE, 1, 1, "k210");
        due(quarrel(0, 0, 0), NONE);
        tokens(0, 0, 12, 4);
        tokens(0, 2, 12, 12, 8);
        dueQuarrel(0, 0, 1, 0, 0, 0, 1);
        now(1);
        dueQuarrel(0, 0, 2, 0, 2, 0, 3);
        now(2);
        dueQuarrel(0, 0, 1, 0, 0, 0, 1);
    }

    @Promise(of = 25, says = "a TOKEN of its SOURCE: not of that on which what is FIXED rests")
    void quarrelsOfTheSourceBesideWhatIsFixed() {
        office();
        verse(0, 0);
        tokens(0, 0, 4);
        law("w1.0=1;w1.0=2;w2.0=1;w2.0=2");
        due(fixed(0), NONE);
        fix(0, 1, 0);
        due(fixed(0), 0);
        dueQuarrel(0, 0, 0, 1, 0, 1, 1);
        tokens(0, 0, 12, 8);
        dueQuarrel(0, 0, 1, 1, 2, 1, 3);
        dueQuarrel(0, 1, NONE, NONE, NONE, NONE, NONE);
    }

    @Promise(of = 25, says = "as many as there can be")
    void quarrelsOfAll() {
        verse(0, 0);
        tokens(0, 0, 156, 157, 158, 159, 156, 157, 158, 159);
        String text = times(7, "w39.*=0;w39.*=1;") + "w39.*=0;w39.*=1";
        for (int i = 0; i < 20; i++) {
            due(law(text), i);
        }
        dueQuarrel(0, 0, 0, 0, 0, 0, 1);
        dueQuarrel(0, 159, 0, 0, 0, 19, 15);
        dueQuarrel(0, 160, 0, 0, 1, 0, 2);
        int all = 8 * 160 * 160;
        dueQuarrel(0, all - 1, 7, 19, 14, 19, 15);
        dueQuarrel(0, all, NONE, NONE, NONE, NONE, NONE);
    }

    @Promise(of = 25, says = "NONE for others")
    void quarrelOfOthers() {
        due(quarrel(0, 0, 0), NONE);
        verse(0, 0);
        tokens(0, 0, 4);
        law("w1.0=1;w1.0=2");
        dueQuarrel(0, 0, 0, 0, 0, 0, 1);
        dueQuarrel(0, 1, NONE, NONE, NONE, NONE, NONE);
        for (int odd : new int[] {-1, -2, 5, MOST, LEAST}) {
            due(quarrel(odd, 0, 0), NONE);
            due(quarrel(0, odd, 0), NONE);
            due(quarrel(0, 0, odd), NONE);
        }
        due(quarrel(1, 0, 0), NONE);
    }

    // ------------------------------------------------------------------ promise 26: unlike

    /** An office with s for all, and so many VERSES with these TOKENS. */
    private void alikeOffice(int verses, int... row) {
        office();
        law("s");
        for (int v = 0; v < verses; v++) {
            verse(0, 0);
            tokens(v, 0, row);
        }
    }

    @Promise(of = 26, says = "two TOKENS that follow one another: one alone is no place")
    void unlikeOfOneToken() {
        alikeOffice(2, 4);
        fix(0, 0, 0);
        fix(1, 1, 0);
        due(count(10), 0);
        dueUnlike(0, NONE, NONE, NONE, NONE);
    }

    @Promise(of = 26, says = "the first place and the last one")
    void unlikeAtBothEnds() {
        alikeOffice(2, 4, 8, 12, 16, 20, 24, 28, 32);
        fix(0, 0, 0, 0, 7);
        fix(1, 1, 0, 1, 7);
        due(count(10), 2);
        dueUnlike(0, 0, 0, 1, 0);
        dueUnlike(1, 0, 6, 1, 6);
        dueUnlike(2, NONE, NONE, NONE, NONE);
    }

    @Promise(of = 26, says = "if both are alike in SIGNS and FORMS")
    void unlikeOfSignsAndForms() {
        alikeOffice(1, 4, 8);
        int[][] rows = {{4, 9}, {5, 8}, {8, 4}, {4, 8}, {4, 4, 8}};
        for (int v = 1; v <= rows.length; v++) {
            verse(0, 0);
            tokens(v, 0, rows[v - 1]);
        }
        fix(0, 0, 0);
        for (int v = 1; v <= rows.length; v++) {
            fix(v, 1, 0);
        }
        due(count(10), 3);
        dueUnlike(0, 0, 0, 4, 0);
        dueUnlike(1, 0, 0, 5, 1);
        dueUnlike(2, 4, 0, 5, 1);
        fresh();
        // 0 and 159, 159 and 0: greatest and least
        alikeOffice(2, 0, 159);
        verse(0, 0);
        tokens(2, 0, 159, 0);
        fix(0, 0, 0);
        fix(1, 1, 0);
        fix(2, 1, 1);
        due(count(10), 1);
        dueUnlike(0, 0, 0, 1, 0);
    }

    @Promise(of = 26, says = "whose two TOKENS are not TURNED by like rows, both of them")
    void unlikeByTurns() {
        alikeOffice(2, 4, 8);
        int[][] others = {{0, 0, 1, 1}, {0, 0, 2, 1}, {2, 0, 1, 1}, {0, 0}, {1, 1}, {0, 0, 0, 0, 1, 1}, {1, 1, 0, 0}, {0, 0, 1, 1, 2, 8},
            {0, 8, 0, 0, 1, 1}, {0, 8, 1, 8}, {0, 1, 1, 0}};
        int[] want = {0, 1, 1, 1, 1, 1, 0, 0, 0, 1, 1};
        fix(0, 0, 0, 1, 1);
        for (int i = 0; i < others.length; i++) {
            now(i + 1);
            fix(1, others[i]);
            due(count(10), want[i]);
        }
    }

    @Promise(of = 26, says = "TURNED by the row of WORDS of its SLOTS: in their order; LEFT is an empty row")
    void unlikeByRows() {
        alikeOffice(2, 4, 8);
        int[][] others = {{0, 0, 1, 0}, {1, 0, 0, 0}, {0, 0, 2, 1, 1, 0}, {0, 0, 2, 8, 1, 0}, {0, 0}, {0, 0, 1, 0, 1, 0}};
        int[] want = {0, 1, 1, 0, 1, 1};
        fix(0, 0, 0, 1, 0);
        for (int i = 0; i < others.length; i++) {
            now(i + 1);
            fix(1, others[i]);
            due(count(10), want[i]);
        }
        now(90);
        fix(0, 0, 8);
        fix(1, 1, 8);
        due(count(10), 0);
        now(91);
        fix(1, 1, 0);
        due(count(10), 1);
    }

    @Promise(of = 26, says = "in what a FIXED RENDERING rests on: of one VERSE, too; places may share a TOKEN")
    void unlikeInOneVerse() {
        alikeOffice(1, 4, 4, 4);
        fix(0, 0, 0, 1, 1, 0, 2);
        // in god / god in
        due(count(10), 1);
        dueUnlike(0, 0, 0, 0, 1);
        now(1);
        fix(0, 0, 0, 0, 1, 0, 2);
        due(count(10), 0);
        now(2);
        fix(0, 0, 0);
        due(count(10), 1);
    }

    @Promise(of = 26, says = "a FIXED RENDERING: no other one; what it rests on, not what the COPY has now")
    void unlikeOfFixedOnesAlone() {
        alikeOffice(2, 4, 8);
        slots(0, 1, 1, 0);
        close(0);
        due(count(10), 0);
        fix(0, 0, 0);
        due(count(10), 0);
        close(0);
        due(count(10), 1);
        tokens(0, 0, 12, 12);
        due(count(10), 1);
        now(1);
        fix(1, 0, 0);
        due(count(10), 0);
    }

    @Promise(of = 26, says = "some s CLAUSE is in FORCE today for both VERSES, and holds for both")
    void unlikeByOneClauseForBoth() {
        office();
        company(0, 1);
        for (int v = 0; v < 2; v++) {
            verse(v, 0);
            tokens(v, 0, 4, 8);
            fix(v, v, 0);
        }
        String[] texts = {"s(v=0);s(v=1)", "s(1/v=1)", "w1.0=1", "s(v=9)"};
        for (String text : texts) {
            law(text);
            due(count(10), 0);
        }
        law(1, 0, LAST_DAY, "s");
        due(count(10), 0);
        law(NONE, 2, 3, "s(v=5);s(d<9)");
        int[] want = {0, 0, 1, 1, 0};
        for (int day = 0; day < want.length; day++) {
            now(day);
            due(count(10), want[day]);
            due(unlike(0, 0), want[day] == 1 ? 0 : NONE);
        }
        law(0, 4, LAST_DAY, "s");
        due(count(10), 1);
    }

    @Promise(of = 26, says = "some s CLAUSE: the same one for both, whichever of all 320 it is")
    void unlikeByTheSameClause() {
        // for each two of 320 CLAUSES there is a round in which they hold for two VERSES apart
        for (int bit = 0; bit < 9; bit++) {
            fresh();
            newWords("in", "god");
            company(255, 1);
            scholar(0, true);
            for (int v = 0; v < 2; v++) {
                verse(0, 0);
                tokens(v, 0, 4, 8);
                slots(0, v, v, 0);
                vote(0, v, true);
                close(v);
                vote(0, v, true);
                close(v);
            }
            for (int i = 0; i < 20; i++) {
                StringBuilder text = new StringBuilder();
                for (int j = 0; j < 16; j++) {
                    text.append(j > 0 ? ";" : "").append("s(v=").append((16 * i + j) >> bit & 1).append(')');
                }
                due(law(text.toString()), i);
            }
            due(count(9), 2);
            due(count(10), 0);
        }
    }

    @Promise(of = 26, says = "for both VERSES: not for those that stand beside them")
    void unlikeBesideOthers() {
        office();
        law("s(v=0);s(v=2);s(v=1|v=3);s(v>55)");
        for (int v = 0; v < 60; v++) {
            verse(0, 0);
        }
        int[] own = {0, 1, 2, 3, 56, 59};
        for (int i = 0; i < own.length; i++) {
            tokens(own[i], 0, 4, 8);
            fix(own[i], i == 2 || i == 5 ? 1 : 0, 0);
        }
        due(count(10), 1);
        dueUnlike(0, 56, 0, 59, 0);
        now(1);
        fix(3, 2, 0);
        due(count(10), 2);
        dueUnlike(0, 1, 0, 3, 0);
    }

    @Promise(of = 26, says = "in FORCE today: what held on another DAY does not count, when it was asked then")
    void unlikeOfToday() {
        newWords("in", "god");
        company(255, 1);
        scholar(0, true);
        law("s(d=1);s(v=0);s(v=1);v0.0;v1.0");
        for (int v = 0; v < 2; v++) {
            verse(0, 0);
            tokens(v, 0, 4, 8);
            fix(v, v, 0);
        }
        for (int i = 1; i < 20; i++) {
            law(i % 3 == 0 ? "s(d=" + i + ")" : "s(d>99)");
        }
        for (int day = 0; day < 20; day++) {
            now(day);
            due(count(10), day == 1 || (day > 1 && day % 3 == 0) ? 1 : 0);
        }
    }

    @Promise(of = 26, says = "RULES for a COMPANY are in FORCE for both VERSES, if it is THE COMPANY of both")
    void unlikeByCompanies() {
        newWords("in", "god");
        company(1, 1);
        company(2, 1);
        scholar(0, true);
        scholar(1, false);
        law("v0.0;v1.0");
        for (int v = 0; v < 3; v++) {
            verse(v == 2 ? 1 : 0, 0);
            tokens(v, 0, 4, 8);
            fix(v, v == 0 ? 0 : 1, 0);
        }
        law(1, 0, LAST_DAY, "s");
        due(count(10), 0);
        law(0, 0, LAST_DAY, "s");
        due(count(10), 1);
        dueUnlike(0, 0, 0, 1, 0);
        law("s");
        due(count(10), 2);
    }

    @Promise(of = 26, says = "the last CLAUSE of the last RULES")
    void unlikeByTheLastClause() {
        alikeOffice(2, 4, 8);
        fix(0, 0, 0);
        fix(1, 1, 0);
        due(count(10), 1);
        fresh();
        office();
        for (int v = 0; v < 2; v++) {
            verse(0, 0);
            tokens(v, 0, 4, 8);
            fix(v, v, 0);
        }
        for (int i = 1; i < 19; i++) {
            law("s(v=0);s(v=1);" + times(13, "o0;") + "s(v=8)");
        }
        due(count(10), 0);
        due(law(times(15, "o0;") + "s(v<2)"), 19);
        due(count(10), 1);
        dueUnlike(0, 0, 0, 1, 0);
    }

    @Promise(of = 26, says = "(the first one ahead: by VERSES, then places)")
    void unlikeInTheirOrder() {
        alikeOffice(3, 4, 8, 4, 8);
        fix(2, 0, 0, 0, 2);
        fix(1, 1, 0, 1, 2);
        fix(0, 1, 0, 2, 2);
        // places 0 and 2 of each are LIKE; those of VERSE 1 are turned alike, and those of VERSE 2
        int[][] want = {{0, 0, 0, 2}, {0, 0, 2, 0}, {0, 0, 2, 2}, {0, 1, 1, 1}, {0, 1, 2, 1}, {0, 2, 1, 0}, {0, 2, 1, 2}, {0, 2, 2, 0},
            {0, 2, 2, 2}, {1, 0, 2, 0}, {1, 0, 2, 2}, {1, 1, 2, 1}, {1, 2, 2, 0}, {1, 2, 2, 2}};
        due(count(10), want.length);
        for (int i = 0; i < want.length; i++) {
            dueUnlike(i, want[i][0], want[i][1], want[i][2], want[i][3]);
        }
        dueUnlike(want.length, NONE, NONE, NONE, NONE);
    }

    @Promise(of = 26, says = "as many as there can be: VERSES 0 to 59 of eight TOKENS")
    void unlikeOfAll() {
        alikeOffice(0);
        for (int v = 0; v < 60; v++) {
            verse(v % 8, 0);
            feed(0x04040404, 0x04040404, 0, 0, 0);
            source(v, 2, 8);
            feed(v % 2 == 0 ? 0x00000001 : 0x01000101, v % 2 == 0 ? 0x00020003 : 0x01020103,
                    v % 2 == 0 ? 0x00040005 : 0x01040105, v % 2 == 0 ? 0x00060007 : 0x01060107, 0);
            render(0, v, 8);
            close(v);
            close(v);
        }
        due(count(10), 210 * 210);
        dueUnlike(0, 0, 0, 1, 0);
        dueUnlike(210 * 210 - 1, 58, 6, 59, 6);
        dueUnlike(210 * 210, NONE, NONE, NONE, NONE);
    }

    @Promise(of = 26, says = "NONE for others")
    void unlikeOfOthers() {
        due(unlike(0, 0), NONE);
        alikeOffice(2, 4, 8);
        fix(0, 0, 0);
        fix(1, 1, 0);
        dueUnlike(0, 0, 0, 1, 0);
        dueUnlike(1, NONE, NONE, NONE, NONE);
        for (int odd : new int[] {-1, -2, 4, MOST, LEAST}) {
            due(unlike(odd, 0), NONE);
            due(unlike(0, odd), NONE);
        }
    }

    // ------------------------------------------------------------------ promise 27: option

    @Promise(of = 27, says = "of a SIGN: no such ones")
    void optionOfSigns() {
        newWord("in");
        due(option(40, 0), false);
        due(option(-1, 0), false);
        due(option(MOST, 0), false);
        due(option(LEAST, 0), false);
        due(count(8), 0);
        due(option(0, 0), true);
        due(option(39, 0), true);
        due(count(8), 2);
    }

    @Promise(of = 27, says = "WORD w: no such ones")
    void optionOfWords() {
        due(option(0, 0), false);
        newWord("in");
        due(option(0, 1), false);
        due(option(0, -1), false);
        due(option(0, MOST), false);
        due(option(0, LEAST), false);
        due(count(8), 0);
        due(option(0, 0), true);
    }

    @Promise(of = 27, says = "it is")
    void optionThatIs() {
        newWords("in", "god");
        due(option(5, 0), true);
        due(option(5, 0), false);
        due(option(5, 1), true);
        due(option(5, 0), false);
        due(option(5, 1), false);
        due(option(6, 0), true);
        due(cost(1), 0);
        due(cost(2), NONE);
    }

    @Promise(of = 27, says = "four are")
    void optionFour() {
        newWords("a", "b", "c", "d", "e");
        for (int w = 4; w > 0; w--) {
            due(option(5, w), true);
        }
        due(option(5, 0), false);
        due(cost(3), 0);
        due(cost(4), NONE);
        due(option(6, 0), true);
    }

    @Promise(of = 27, says = "six other SIGNS have some")
    void optionSixSigns() {
        newWords("a", "b");
        for (int sign = 0; sign < 6; sign++) {
            due(count(8), sign);
            due(option(sign, 0), true);
        }
        due(option(6, 0), false);
        due(option(39, 1), false);
        due(count(8), 6);
        due(option(5, 1), true);
        due(option(0, 1), true);
        due(count(8), 6);
    }

    @Promise(of = 27, says = "in the order told; they are in the order in which their first OPTION was told")
    void optionsInTheirOrder() {
        office();
        verse(0, 0);
        tokens(0, 0, 4, 8);
        fix(0, 0, 0, 1, 1);
        option(2, 2);
        option(1, 1);
        option(2, 1);
        option(1, 0);
        // SIGN 2: sky, god; SIGN 1: god, in
        due(cost(0), 2);
        due(cost(1), 1);
        due(cost(4), 1);
        due(cost(5), 0);
        due(one(), 5);
    }

    // ------------------------------------------------------------------ promise 28: apart

    @Promise(of = 28, says = "no such two")
    void apartNoSuchTwo() {
        for (int odd : new int[] {-1, 40, 64, MOST, LEAST}) {
            due(apart(odd, 0), false);
            due(apart(0, odd), false);
            due(apart(odd, odd), false);
        }
        due(apart(0, 0), false);
        due(apart(39, 39), false);
        due(apart(0, 39), true);
    }

    @Promise(of = 28, says = "they are")
    void apartTheyAre() {
        due(apart(39, 0), true);
        due(apart(39, 0), false);
        due(apart(0, 39), false);
        due(apart(0, 38), true);
        due(apart(38, 39), true);
        due(apart(7, 39), true);
        due(apart(7, 0), true);
        due(apart(32, 0), true);
        due(apart(0, 32), false);
        due(apart(1, 33), true);
        due(apart(1, 32), true);
    }

    @Promise(of = 28, says = "two SIGNS that are told APART must not get the same WORD: told ahead of their OPTIONS, too")
    void apartAheadOfOptions() {
        newWords("in", "god");
        due(apart(39, 7), true);
        option(7, 0);
        option(39, 0);
        due(cost(0), -2);
        option(39, 1);
        due(cost(4), 0);
        due(apart(7, 8), true);
        option(8, 0);
        due(cost(4), -2);
        option(8, 1);
        due(cost(4 + 16), 0);
        due(apart(8, 39), true);
        due(cost(4 + 16), -2);
        due(one(), NONE);
    }

    // ------------------------------------------------------------------ promise 29: cost

    @Promise(of = 29, says = "NONE: no such OPTIONS: none are told")
    void costWithoutOptions() {
        due(cost(0), 0);
        for (int odd : new int[] {1, 4, -1, MOST, LEAST}) {
            due(cost(odd), NONE);
        }
    }

    @Promise(of = 29, says = "digits of 4, the first SIGN in the lowest place: the greatest CHOICE and the first beyond")
    void costOfTheGreatest() {
        newWords("a", "b", "c", "d");
        for (int sign = 0; sign < 6; sign++) {
            for (int w = 0; w < 4; w++) {
                option(sign, w);
            }
        }
        due(cost(0), 0);
        due(cost(4095), 0);
        due(cost(4096), NONE);
        due(cost(4096 + 4095), NONE);
        due(cost(-1), NONE);
        due(cost(-4096), NONE);
        due(cost(MOST), NONE);
        due(cost(LEAST), NONE);
    }

    @Promise(of = 29, says = "NONE: no such OPTIONS: of a SIGN that has less than four")
    void costOfDigitsBeyond() {
        newWords("a", "b", "c");
        option(9, 0);
        option(9, 1);
        option(3, 0);
        option(3, 1);
        option(3, 2);
        int[] good = {0, 1, 4, 5, 8, 9};
        for (int choice = -3; choice < 20; choice++) {
            boolean is = false;
            for (int g : good) {
                is |= g == choice;
            }
            due(cost(choice), is ? 0 : NONE);
        }
    }

    @Promise(of = 29, says = "NONE told last is looked at first, then -2: it may not be")
    void costNoneAheadOfMayNotBe() {
        newWords("a", "b");
        option(1, 0);
        option(2, 0);
        option(3, 0);
        apart(1, 2);
        due(cost(0), -2);
        due(cost(1), NONE);
        due(cost(16), NONE);
        due(cost(64), NONE);
        due(cost(-1), NONE);
    }

    @Promise(of = 29, says = "no two that are APART get the same WORD: of each two of the six")
    void costOfEachTwo() {
        for (int a = 0; a < 6; a++) {
            for (int b = a + 1; b < 6; b++) {
                fresh();
                newWords("a", "b");
                for (int k = 0; k < 6; k++) {
                    option(39 - k, 0);
                    option(39 - k, 1);
                }
                apart(39 - b, 39 - a);
                due(cost(0), -2);
                due(cost(1 << 2 * a), 0);
                due(cost(1 << 2 * b), 0);
                due(cost((1 << 2 * a) + (1 << 2 * b)), -2);
            }
        }
    }

    @Promise(of = 29, says = "of all FIXED RENDERINGS all SLOTS that turn a TOKEN of such a SIGN and have another WORD")
    void costOfSlots() {
        office();
        verse(0, 0);
        verse(0, 0);
        tokens(0, 0, 4, 7, 8);
        tokens(1, 0, 4);
        slots(0, 1, 1, 0);
        option(1, 0);
        option(1, 1);
        due(cost(0), 0);
        // in, god turn token 0; sky token 1; god token 2 of another SIGN; in and god are ADDED
        fix(0, 0, 0, 1, 0, 2, 1, 1, 2, 0, 8, 1, 8);
        due(cost(0), 2);
        due(cost(1), 2);
        close(0);
        due(cost(0), 2);
        close(0);
        due(cost(0), 3);
        due(cost(1), 2);
        now(1);
        fix(0, 1, 0, 1, 1);
        due(cost(0), 3);
        due(cost(1), 0);
    }

    @Promise(of = 29, says = "8: it is ADDED: it turns none of eight TOKENS, either")
    void costOfAddedOnes() {
        office();
        verse(0, 0);
        tokens(0, 0, 4, 4, 4, 4, 4, 4, 4, 4);
        fix(0, 0, 8, 0, 7, 0, 0, 0, 8);
        option(1, 0);
        option(1, 1);
        due(cost(0), 0);
        due(cost(1), 2);
        law("w1.0=0");
        due(breaches(0), 6);
        dueBreach(0, 0, 1, 0, 1);
        dueBreach(0, 5, 1, 0, 6);
    }

    @Promise(of = 29, says = "of all FIXED RENDERINGS: on whichever COPY they rest, and whatever that has by now")
    void costOnEachCopy() {
        office();
        option(1, 0);
        option(1, 1);
        for (int copy = 0; copy < 3; copy++) {
            verse(0, 0);
            tokens(copy, copy, 4, 8);
            fix(copy, 0, 0, 0, 1);
            due(look(copy, 4), copy);
            due(cost(0), 0);
            due(cost(1), copy + 1);
        }
        tokens(2, 0, 8, 8);
        tokens(1, 1, 8, 4);
        tokens(0, 0, 12);
        due(cost(0), 0);
        due(cost(1), 3);
        law("w1.0=1");
        due(cost(0), -2);
        due(cost(1), 3);
    }

    @Promise(of = 29, says = "COST: as much as there can be")
    void costOfMany() {
        newWords("in", "god");
        company(255, 1);
        scholar(0, true);
        law("v0.0;v1.0");
        option(39, 0);
        option(39, 1);
        for (int v = 0; v < 56; v++) {
            verse(0, 0);
            feed(0x9f000000, 0, 0, 0, 0);
            source(v, 0, 1);
            feed(0, 0, 0, 0, 0);
            feed(0, 0, 0, 0, 0);
            render(0, v, 12);
            close(v);
            close(v);
        }
        due(cost(0), 0);
        due(cost(1), 56 * 12);
        due(one(), 0);
    }

    @Promise(of = 29, says = "no w CLAUSE that holds today for a VERSE with something FIXED asks for another WORD")
    void costByClauses() {
        office();
        verse(0, 0);
        verse(0, 0);
        tokens(0, 0, 4);
        tokens(1, 0, 4);
        option(1, 0);
        option(1, 1);
        law("w1.0=1(v=0)");
        due(cost(0), 0);
        fix(1, 0, 0);
        due(cost(0), 0);
        fix(0, 0, 0);
        due(cost(0), -2);
        due(cost(1), 2);
        law("w1.0=79(1/v=9);w1.0=79(v=7)");
        due(cost(1), 2);
        law("w1.0=79(1/v=1)");
        due(cost(1), -2);
    }

    @Promise(of = 29, says = "a w CLAUSE that holds today: in FORCE, for its COMPANY, not REFUSED")
    void costByClausesInForce() {
        office();
        company(1, 1);
        verse(0, 0);
        tokens(0, 0, 4);
        fix(0, 0, 0);
        option(1, 0);
        law(1, 0, LAST_DAY, "w1.0=1");
        law("w1.0=1(1/v=1);s;w1.0=0");
        law(NONE, 2, 3, "w1.0=1");
        law(0, 5, 5, "w1.0=1");
        for (int day = 0; day < 7; day++) {
            now(day);
            boolean barred = day == 2 || day == 3 || day == 5;
            due(cost(0), barred ? -2 : 0);
            due(one(), barred ? NONE : 0);
        }
    }

    @Promise(of = 29, says = "a w CLAUSE of the first RULES, and of the last; the first CLAUSE, and the last")
    void costByFirstAndLast() {
        newWords("in", "god");
        company(255, 1);
        scholar(0, true);
        law("w1.0=0(d=0);v0.0;v1.0;" + times(12, "o0;") + "w1.0=0(d=1)");
        verse(0, 0);
        tokens(0, 0, 4);
        fix(0, 0, 0);
        for (int i = 1; i < 19; i++) {
            law("w2.0=0");
        }
        law("w1.0=0(d=2);" + times(14, "o0;") + "w1.0=0(d=3)");
        option(1, 0);
        option(1, 1);
        due(count(5), 20);
        for (int day = 0; day < 5; day++) {
            now(day);
            due(cost(0), 0);
            due(cost(1), day < 4 ? -2 : 1);
        }
    }

    @Promise(of = 29, says = "COST: of each of six SIGNS with four OPTIONS by itself")
    void costOfSixSigns() {
        newWords("a", "b", "c", "d", "e");
        company(255, 1);
        scholar(0, true);
        law("v0.0;v1.0");
        verse(0, 0);
        tokens(0, 0, 20, 16, 12, 8, 4, 0);
        for (int sign = 0; sign < 6; sign++) {
            for (int w = 0; w < 4; w++) {
                option(sign, w);
            }
        }
        // the SLOTS of SIGN 5 have e, of 4 d, of 3 c, of 2 b, of 1 a, of 0 a and e
        fix(0, 4, 0, 3, 1, 2, 2, 1, 3, 0, 4, 0, 5, 4, 5);
        int[] least = {0, 0, 1, 2, 3, 0};
        int best = 0;
        for (int sign = 5; sign >= 0; sign--) {
            best = best * 4 + least[sign];
        }
        due(cost(best), 2);
        due(one(), best);
        for (int sign = 0; sign < 6; sign++) {
            for (int w = 0; w < 4; w++) {
                int choice = best + ((w - least[sign]) << 2 * sign);
                due(cost(choice), w == least[sign] || sign == 5 ? 2 : 3);
            }
        }
    }

    @Promise(of = 29, says = "of a SIGN of these, of a FORM that stands in what that rests on")
    void costBySignAndForm() {
        office();
        verse(0, 0);
        tokens(0, 0, 5, 8);
        fix(0, 0, 0);
        option(1, 0);
        String[] harmless = {"w1.0=1", "w1.2=1", "w1.3=1", "w2.*=1", "w3.1=1", "w1.1=0", "w1.*=0"};
        for (String text : harmless) {
            law(text);
            due(cost(0), 0);
        }
        tokens(0, 0, 4);
        due(cost(0), 0);
        law("w1.1=1");
        due(cost(0), -2);
        fresh();
        office();
        verse(0, 0);
        tokens(0, 0, 159);
        fix(0, 0, 0);
        option(39, 0);
        law("w39.*=1");
        due(cost(0), -2);
    }

    // ------------------------------------------------------------------ promise 30: one

    @Promise(of = 30, says = "THE BEST CHOICE of no SIGNS is 0")
    void oneOfNothing() {
        due(one(), 0);
    }

    @Promise(of = 30, says = "NONE: none may be")
    void oneOfNone() {
        newWords("a", "b");
        option(1, 0);
        option(2, 0);
        due(one(), 0);
        apart(1, 2);
        due(one(), NONE);
        option(2, 1);
        due(one(), 4);
    }

    @Promise(of = 30, says = "of all that MAY BE that of least COST")
    void oneOfLeastCost() {
        office();
        verse(0, 0);
        tokens(0, 0, 4, 8);
        fix(0, 0, 0, 1, 0, 1, 0, 2, 1, 2, 1);
        option(1, 0);
        option(1, 1);
        option(1, 2);
        option(2, 0);
        option(2, 2);
        due(cost(0), 4);
        due(cost(1), 3);
        due(cost(5), 1);
        due(one(), 5);
        law("w1.0=2");
        due(one(), 6);
        apart(1, 2);
        due(cost(6), -2);
        due(one(), 2);
        due(cost(2), 5);
    }

    @Promise(of = 30, says = "of like ones the least row")
    void oneOfLikeOnes() {
        newWords("a", "b", "c");
        for (int sign = 1; sign < 4; sign++) {
            for (int w = 0; w < 3; w++) {
                option(sign, w);
            }
        }
        due(one(), 0);
        apart(1, 2);
        // 0, 1, 0 is ahead of 1, 0, 0
        due(one(), 4);
        apart(1, 3);
        // 0, 1, 1 is ahead of 1, 0, 0
        due(one(), 4 + 16);
        apart(2, 3);
        due(one(), 4 + 32);
    }

    @Promise(of = 30, says = "the greatest CHOICE")
    void oneTheGreatest() {
        newWords("a", "b", "c", "d");
        company(1, 1);
        scholar(0, true);
        law("v0.0;v1.0");
        verse(0, 0);
        tokens(0, 0, 0, 4, 8, 12, 16, 20);
        for (int sign = 0; sign < 6; sign++) {
            for (int w = 0; w < 4; w++) {
                option(sign, w);
            }
        }
        fix(0, 0, 0);
        due(one(), 0);
        law("w0.*=3;w1.*=3;w2.*=3;w3.*=3;w4.*=3;w5.*=3");
        due(one(), 4095);
        due(cost(4095), 1);
        due(cost(4094), -2);
    }

    // ------------------------------------------------------------------ promise 31: line

    @Promise(of = 31, says = "NONE: there is none such")
    void lineOfNone() {
        newWord("aba");
        company(255, 1);
        scholar(0, true);
        law("v0.0;v1.0");
        due(line(0), NONE);
        verse(0, 1);
        tokens(0, 0, 4);
        due(line(0), NONE);
        fix(0, 0, 0);
        due(line(0), 0);
        for (int odd : new int[] {1, -1, MOST, LEAST}) {
            due(line(odd), NONE);
        }
    }

    @Promise(of = 31, says = "a VERSE with a MEASURE (0: none); it keeps it if its WORDS have so many SYLLABLES together")
    void lineByMeasures() {
        newWords("aba", "b");
        company(255, 1);
        scholar(0, true);
        law("v0.0;v1.0");
        // aba b aba: five; of them one ADDED
        int[] measures = {0, 1, 4, 5, 6, 40};
        for (int v = 0; v < measures.length; v++) {
            verse(0, measures[v]);
            tokens(v, 0, 4);
            fix(v, 0, 0, 1, 0, 0, 8);
        }
        int[] want = {1, 2, 4, 5, NONE};
        for (int i = 0; i < want.length; i++) {
            due(line(i), want[i]);
        }
    }

    @Promise(of = 31, says = "a MEASURE to 40 can be kept; SYLLABLES by its own letters")
    void lineOfTheGreatestMeasure() {
        newWords("abababababab", "abab");
        company(255, 1);
        scholar(0, true);
        law("v0.0;v1.0");
        verse(0, 40);
        tokens(0, 0, 4);
        respell(0, 0, "b");
        fix(0, 0, 0, 0, 0, 0, 0, 0, 0, 0, 0, 0, 0, 1, 0, 1, 8);
        due(line(0), NONE);
        now(1);
        fix(0, 0, 0, 0, 0, 0, 0, 0, 0, 0, 0, 0, 0, 0, 0, 0, 0, 0, 0, 0, 0, 0, 0, 0, 0);
        due(line(0), 1);
    }

    @Promise(of = 31, says = "the i-th, by VERSES: the RENDERING that is FIXED, no other one")
    void lineByVerses() {
        newWord("aba");
        company(255, 1);
        scholar(0, true);
        law("v0.0;v1.0");
        for (int v = 0; v < 3; v++) {
            verse(0, 1);
            tokens(v, 0, 4);
        }
        fix(2, 0, 0);
        fix(0, 0, 0);
        slots(0, 1, 0, 0);
        due(line(0), 1);
        due(line(1), 0);
        due(line(2), NONE);
        now(1);
        fix(2, 0, 0, 0, 0);
        due(line(1), 3);
        law("v0.1;v1.1");
        close(2);
        due(line(2), NONE);
    }
}
