/** The edges of RENDERINGS, their STATES and VOTES, of what is VOID and FIXED: promises 17 to 22 and 39. */
public final class RenderingEdgesTest extends Sentences {
    private static final int PROPOSED = 0;
    private static final int PASSED = 1;
    private static final int FIXED = 2;
    private static final int DROPPED = 3;
    private static final int REPLACED = 4;

    public static void main(String[] args) {
        run(RenderingEdgesTest.class);
    }

    /** A WORD, COMPANY 0 of BOOK 0 with so many SCHOLARS, the first of them of the CENTRE, too; VERSE 0 of one TOKEN. */
    private void staff(int scholars, int ofTheCentre) {
        newWord("in");
        company(1, 1);
        for (int s = 0; s < scholars; s++) {
            scholar(0, s < ofTheCentre);
        }
        verse(0, 0);
        tokens(0, 0, 4);
    }

    /** A RENDERING of VERSE 0 by SCHOLAR s. */
    private int propose(int s) {
        return slots(s, 0, 0, 0);
    }

    private void say(int r, boolean yes, int... scholars) {
        for (int s : scholars) {
            due(vote(s, r, yes), true);
        }
    }

    /** STATE, YES of both stages, the DAY on which it was FIXED. */
    private void dueOf(int r, int state, int yes, int yesOfCentre, int day) {
        due(look(r, 2), state);
        due(look(r, 7), yes);
        due(look(r, 8), yesOfCentre);
        due(look(r, 9), day);
    }

    // ------------------------------------------------------------------ promise 17: render

    @Promise(of = 17, says = "by SCHOLAR s: no such ones")
    void renderByNoScholar() {
        newWord("in");
        company(1, 1);
        verse(0, 0);
        tokens(0, 0, 4);
        due(propose(0), NONE);
        scholar(0, false);
        due(propose(1), NONE);
        due(propose(-1), NONE);
        due(propose(MOST), NONE);
        due(propose(LEAST), NONE);
        due(count(7), 20);
        due(propose(0), 0);
    }

    @Promise(of = 17, says = "of VERSE v: no such ones")
    void renderOfNoVerse() {
        staff(1, 0);
        for (int v : new int[] {1, -1, MOST, LEAST}) {
            due(slots(0, v, 0, 0), NONE);
        }
        due(count(7), 20);
        due(count(6), 0);
    }

    @Promise(of = 17, says = "no SOURCE")
    void renderWithoutSource() {
        office();
        verse(0, 0);
        verse(0, 0);
        tokens(1, 0, 4);
        due(slots(0, 0, 0, 8), NONE);
        due(count(7), 20);
        tokens(0, 2, 4);
        due(slots(0, 0, 0, 8), 0);
        due(look(0, 4), 2);
    }

    @Promise(of = 17, says = "a VERSE that has a SOURCE today: it rests on that COPY, with these TOKENS")
    void renderRestsOnTodaysCopy() {
        office();
        verse(0, 0);
        tokens(0, 0, 4);
        tokens(0, 2, 8, 8, 8);
        law(NONE, 1, 1, "k210");
        due(slots(0, 0, 0, 1), NONE);
        due(slots(0, 0, 0, 0), 0);
        now(1);
        due(slots(0, 0, 0, 3), NONE);
        due(slots(0, 0, 0, 2), 1);
        now(2);
        due(slots(0, 0, 0, 1), NONE);
        due(slots(0, 0, 0, 0), 2);
        int[] copies = {0, 2, 0};
        int[] left = {0, 3, 0};
        for (int r = 0; r < 3; r++) {
            due(look(r, 4), copies[r]);
            due(look(r, 6), left[r]);
        }
    }

    @Promise(of = 17, says = "VOID")
    void renderByVoid() {
        staff(2, 0);
        due(propose(0), 0);
        due(voids(0), 0);
        due(propose(0), NONE);
        due(count(7), 20);
        due(propose(1), 1);
        due(look(0, 0), 0);
        due(look(0, 2), PROPOSED);
    }

    @Promise(of = 17, says = "by the first 2 n bytes of the tape (n 1 to 12)")
    void renderOfOneToTwelve() {
        staff(1, 0);
        int[] row = new int[26];
        lay(row);
        for (int n : new int[] {0, 13, -1, 14, 1 << 30, (1 << 30) + 1, MOST, LEAST, LEAST + 1}) {
            due(render(0, 0, n), NONE);
        }
        due(count(7), 40);
        due(render(0, 0, 12), 0);
        due(look(0, 5), 12);
        lay(0, 8);
        due(render(0, 0, 1), 1);
        due(look(1, 5), 1);
    }

    @Promise(of = 17, says = "it has not so many (the tape stays)")
    void renderOfTooFew() {
        staff(1, 0);
        due(render(0, 0, 1), NONE);
        lay(new int[20]);
        due(render(0, 0, 11), NONE);
        due(render(0, 0, 12), NONE);
        due(count(7), 20);
        due(render(0, 0, 10), 0);
        due(look(0, 5), 10);
        due(render(0, 0, 1), NONE);
    }

    @Promise(of = 17, says = "each a WORD: no such ones")
    void renderOfNoWord() {
        staff(1, 0);
        newWord("god");
        due(slots(0, 0, 1, 0), 0);
        due(slots(0, 0, 2, 0), NONE);
        due(slots(0, 0, 255, 0), NONE);
        due(slots(0, 0, 0, 0, 1, 0, 2, 0), NONE);
        due(count(7), 20);
        due(render(0, 0, 2), 1);
        due(slots(0, 0, 2, 8), NONE);
    }

    @Promise(of = 17, says = "the number of the TOKEN that it turns (from 0 on), or 8: it is ADDED")
    void renderOfTokens() {
        staff(1, 0);
        due(slots(0, 0, 0, 0), 0);
        due(slots(0, 0, 0, 1), NONE);
        due(slots(0, 0, 0, 7), NONE);
        due(slots(0, 0, 0, 9), NONE);
        due(slots(0, 0, 0, 255), NONE);
        due(slots(0, 0, 0, 8), 1);
        tokens(0, 0, 1, 2, 3, 4, 5, 6, 7, 8);
        due(slots(0, 0, 0, 7), 2);
        due(slots(0, 0, 0, 8), 3);
        due(slots(0, 0, 0, 9), NONE);
        due(slots(0, 0, 0, 7, 0, 9), NONE);
        due(look(2, 6), 127);
        due(look(3, 6), 255);
        due(count(6), 4);
    }

    @Promise(of = 17, says = "what stands behind the first 2 n bytes does not matter")
    void renderOfTheFirstBytesAlone() {
        staff(1, 0);
        lay(0, 0, 99, 99);
        due(render(0, 0, 2), NONE);
        due(render(0, 0, 1), 0);
        due(count(7), 0);
    }

    @Promise(of = 17, says = "empty then")
    void renderEmptiesAll() {
        staff(1, 0);
        for (int i = 0; i < 10; i++) {
            feed(0, 0, 0, 0, 0);
        }
        due(render(0, 0, 1), 0);
        due(count(7), 0);
    }

    @Promise(of = 17, says = "its number; 200 are there: RENDERINGS 0 to 199")
    void renderTwoHundred() {
        staff(1, 1);
        for (int r = 0; r < 199; r++) {
            feed(8, 0, 0, 0, 0);
            due(render(0, 0, 1), r);
        }
        due(look(199, 0), NONE);
        due(close(199), NONE);
        feed(0, 0, 0, 0, 0);
        due(render(0, 0, 1), 199);
        feed(0, 0, 0, 0, 0);
        due(render(0, 0, 1), NONE);
        due(count(7), 20);
        due(count(6), 200);
        due(look(200, 0), NONE);
        due(vote(0, 200, true), false);
        due(vote(0, 199, true), true);
        due(close(199), PASSED);
        due(vote(0, 199, true), true);
        due(close(199), FIXED);
        due(fixed(0), 199);
        due(fixedOn(0, 0), 199);
        due(breaches(199), 0);
        due(breaches(200), NONE);
        due(print(0, 0), "in");
        lay(0, 199);
        due(check(1), NONE);
    }

    @Promise(of = 17, says = "a refused one takes no number")
    void renderRefusedTakesNoNumber() {
        staff(1, 0);
        due(propose(0), 0);
        due(slots(0, 0, 9, 0), NONE);
        due(propose(0), 1);
        due(count(6), 2);
    }

    // ------------------------------------------------------------------ promise 18: vote

    @Promise(of = 18, says = "SCHOLAR s votes of RENDERING r: no such ones")
    void voteOfNoSuchOnes() {
        staff(1, 1);
        due(vote(0, 0, true), false);
        propose(0);
        for (int odd : new int[] {1, -1, MOST, LEAST}) {
            due(vote(0, odd, true), false);
            due(vote(odd, 0, true), false);
        }
        due(vote(32, 0, true), false);
        due(vote(0, 0, true), true);
    }

    @Promise(of = 18, says = "not PROPOSED or PASSED")
    void voteOfOtherStates() {
        staff(2, 2);
        propose(0);
        due(vote(0, 0, true), true);
        due(close(0), PASSED);
        due(vote(0, 0, true), true);
        due(close(0), FIXED);
        due(vote(0, 0, true), false);
        propose(0);
        due(close(1), DROPPED);
        due(vote(0, 1, true), false);
        due(close(1), NONE);
        propose(0);
        say(2, true, 0, 1);
        close(2);
        say(2, true, 0, 1);
        now(1);
        due(close(2), FIXED);
        due(look(0, 2), REPLACED);
        due(vote(0, 0, true), false);
        due(close(0), NONE);
    }

    @Promise(of = 18, says = "not a SCHOLAR of the stage: at stage 0 SCHOLARS of THE COMPANY of the VERSE")
    void voteOfAnotherCompany() {
        staff(1, 0);
        company(3, 1);
        company(2, 1);
        scholar(1, true);
        scholar(2, true);
        propose(0);
        due(vote(0, 0, true), true);
        due(vote(1, 0, true), false);
        due(vote(2, 0, true), false);
        verse(1, 0);
        tokens(1, 0, 4);
        slots(0, 1, 0, 0);
        due(vote(0, 1, true), false);
        due(vote(1, 1, true), true);
        due(vote(2, 1, true), false);
        verse(2, 0);
        tokens(2, 0, 4);
        slots(0, 2, 0, 0);
        for (int s = 0; s < 3; s++) {
            due(vote(s, 2, true), false);
        }
    }

    @Promise(of = 18, says = "at stage 1 (PASSED) those of the CENTRE")
    void voteOfTheCentre() {
        staff(1, 0);
        company(2, 1);
        scholar(1, true);
        scholar(1, false);
        propose(0);
        vote(0, 0, true);
        due(close(0), PASSED);
        due(vote(0, 0, true), false);
        due(vote(1, 0, true), true);
        due(vote(2, 0, true), false);
        due(close(0), FIXED);
    }

    @Promise(of = 18, says = "VOID")
    void voteOfVoid() {
        staff(3, 3);
        propose(0);
        voids(0);
        due(vote(0, 0, true), false);
        due(vote(1, 0, true), true);
        due(close(0), PASSED);
        due(vote(0, 0, true), false);
        due(vote(1, 0, true), true);
    }

    @Promise(of = 18, says = "yes or no, the latest counts")
    void voteTheLatest() {
        staff(1, 1);
        propose(0);
        say(0, true, 0);
        say(0, false, 0);
        due(close(0), DROPPED);
        due(look(0, 7), 0);
        propose(0);
        say(1, false, 0);
        say(1, true, 0);
        say(1, true, 0);
        due(close(1), PASSED);
        due(look(1, 7), 1);
        say(1, true, 0);
        say(1, false, 0);
        due(close(1), DROPPED);
        due(look(1, 8), 0);
    }

    @Promise(of = 18, says = "the latest counts: of each of 24 SCHOLARS by itself")
    void voteOfEachOne() {
        staff(24, 24);
        law("v0.0");
        propose(0);
        for (int s = 0; s < 24; s++) {
            say(0, true, s);
        }
        for (int s = 0; s < 24; s += 5) {
            say(0, false, s);
        }
        due(close(0), PASSED);
        due(look(0, 7), 19);
        for (int s = 23; s > 0; s -= 2) {
            say(0, false, s);
        }
        for (int s = 23; s >= 0; s--) {
            say(0, true, s);
        }
        for (int s = 1; s < 24; s += 3) {
            say(0, false, s);
        }
        due(close(0), FIXED);
        due(look(0, 8), 16);
    }

    @Promise(of = 18, says = "a vote of stage 0 is none of stage 1")
    void voteOfOneStageAlone() {
        staff(1, 1);
        propose(0);
        say(0, true, 0);
        due(close(0), PASSED);
        due(close(0), DROPPED);
        due(look(0, 7), 1);
        due(look(0, 8), 0);
    }

    // ------------------------------------------------------------------ promise 19: close

    @Promise(of = 19, says = "NONE: no such one")
    void closeOfNoSuchOne() {
        staff(1, 1);
        due(close(0), NONE);
        propose(0);
        for (int odd : new int[] {1, -1, MOST, LEAST}) {
            due(close(odd), NONE);
        }
        due(look(0, 2), PROPOSED);
    }

    private void closeWith(int all, int yes, int needed, int want, int wantOfCentre) {
        fresh();
        staff(all, all);
        law("v0." + needed);
        propose(0);
        for (int s = 0; s < yes; s++) {
            vote(s, 0, true);
        }
        due(close(0), want);
        due(look(0, 7), yes);
        fresh();
        staff(all, all);
        law("v0.0;v1." + needed);
        propose(0);
        close(0);
        for (int s = 0; s < yes; s++) {
            vote(all - 1 - s, 0, true);
        }
        due(close(0), wantOfCentre);
        due(look(0, 8), yes);
    }

    @Promise(of = 19, says = "hundredths YES have to be as many as are needed today, or more")
    void closeAsManyAsAreNeeded() {
        int[][] enough = {{1, 0, 0}, {1, 1, 100}, {2, 1, 50}, {3, 2, 66}, {3, 1, 33}, {7, 2, 28}, {24, 23, 95}, {24, 24, 100},
            {24, 12, 50}, {24, 0, 0}, {24, 1, 4}, {9, 5, 55}};
        for (int[] row : enough) {
            closeWith(row[0], row[1], row[2], PASSED, FIXED);
        }
        int[][] less = {{1, 0, 1}, {2, 1, 51}, {3, 2, 67}, {3, 1, 34}, {7, 2, 29}, {24, 23, 96}, {24, 23, 100}, {24, 11, 50},
            {24, 0, 1}, {24, 1, 5}, {9, 5, 56}};
        for (int[] row : less) {
            closeWith(row[0], row[1], row[2], DROPPED, DROPPED);
        }
    }

    @Promise(of = 19, says = "of the stage's SCHOLARS (all of them, today)")
    void closeByAllOfToday() {
        staff(2, 2);
        propose(0);
        propose(0);
        say(0, true, 0);
        say(1, true, 0);
        due(close(0), PASSED);
        scholar(0, true);
        due(close(1), DROPPED);
        due(look(1, 7), 1);
        say(0, true, 0);
        due(close(0), DROPPED);
        due(look(0, 8), 1);
    }

    @Promise(of = 19, says = "who are not VOID")
    void closeWithoutVoidOnes() {
        staff(3, 3);
        propose(0);
        say(0, true, 0);
        due(voids(1), 0);
        due(close(0), PASSED);
        say(0, true, 0);
        due(close(0), FIXED);
        propose(0);
        say(1, true, 0);
        due(voids(0), 1);
        due(close(1), DROPPED);
        due(look(1, 7), 0);
    }

    @Promise(of = 19, says = "the stage has no SCHOLARS: no COMPANY has the BOOK")
    void closeWithoutCompany() {
        newWord("in");
        company(2, 1);
        scholar(0, true);
        verse(0, 0);
        tokens(0, 0, 4);
        law("v0.0");
        propose(0);
        due(close(0), NONE);
        dueOf(0, PROPOSED, NONE, NONE, NONE);
        company(1, 1);
        due(close(0), NONE);
        scholar(1, false);
        due(close(0), PASSED);
    }

    @Promise(of = 19, says = "the stage has no SCHOLARS: none of the CENTRE, all VOID")
    void closeWithoutScholars() {
        staff(2, 0);
        law("v0.0;v1.0");
        propose(0);
        propose(0);
        due(close(0), PASSED);
        due(close(0), NONE);
        dueOf(0, PASSED, 0, NONE, NONE);
        due(scholar(0, true), 2);
        due(voids(2), 0);
        due(close(0), NONE);
        due(scholar(0, true), 3);
        due(close(0), FIXED);
        due(voids(0), 0);
        due(voids(1), 0);
        due(voids(3), 0);
        due(close(1), NONE);
        dueOf(1, PROPOSED, NONE, NONE, NONE);
    }

    @Promise(of = 19, says = "as many as are needed today")
    void closeByTheNeedOfToday() {
        staff(2, 2);
        law(NONE, 1, 1, "v0.51;v1.51");
        propose(0);
        propose(0);
        propose(0);
        for (int r = 0; r < 3; r++) {
            say(r, true, 0);
        }
        due(close(0), PASSED);
        say(0, true, 0);
        now(1);
        due(close(1), DROPPED);
        now(2);
        due(close(2), PASSED);
        due(close(0), FIXED);
    }

    private void fixToday(int r) {
        say(r, true, 0);
        due(close(r), PASSED);
        say(r, true, 0);
        due(close(r), FIXED);
    }

    @Promise(of = 19, says = "FIXED more than so many DAYS ago: 0 DAYS")
    void closeOnTheSameDay() {
        staff(1, 1);
        propose(0);
        propose(0);
        now(5);
        fixToday(0);
        say(1, true, 0);
        due(close(1), PASSED);
        say(1, true, 0);
        due(close(1), NONE);
        dueOf(1, PASSED, 1, NONE, NONE);
        dueOf(0, FIXED, 1, 1, 5);
        due(fixed(0), 0);
        now(6);
        due(close(1), FIXED);
        dueOf(1, FIXED, 1, 1, 6);
        dueOf(0, REPLACED, 1, 1, 5);
        due(fixed(0), 1);
    }

    @Promise(of = 19, says = "FIXED more than so many DAYS ago: N DAYS, by o of today")
    void closeBehindSoManyDays() {
        staff(1, 1);
        law("o3");
        for (int r = 0; r < 3; r++) {
            propose(0);
        }
        now(5);
        fixToday(0);
        for (int r = 1; r < 3; r++) {
            say(r, true, 0);
            due(close(r), PASSED);
            say(r, true, 0);
        }
        for (int day = 5; day <= 8; day++) {
            now(day);
            due(close(1), NONE);
        }
        now(9);
        due(close(1), FIXED);
        law(NONE, 9, 10, "o0");
        due(close(2), NONE);
        law(NONE, 10, 10, "o1");
        now(10);
        due(close(2), NONE);
        now(11);
        due(close(2), NONE);
        now(12);
        due(close(2), NONE);
        now(13);
        due(close(2), FIXED);
    }

    @Promise(of = 19, says = "o of more DAYS than there are: never again")
    void closeNeverAgain() {
        staff(1, 1);
        law("o3999");
        propose(0);
        propose(0);
        fixToday(0);
        say(1, true, 0);
        close(1);
        say(1, true, 0);
        now(LAST_DAY);
        due(close(1), NONE);
        law("o3998");
        due(close(1), FIXED);
        due(look(1, 9), LAST_DAY);
    }

    @Promise(of = 19, says = "or there is nothing FIXED")
    void closeWithNothingFixed() {
        staff(1, 1);
        law("o99999");
        verse(0, 0);
        tokens(1, 0, 4);
        propose(0);
        slots(0, 1, 0, 0);
        fixToday(0);
        fixToday(1);
        due(fixed(0), 0);
        due(fixed(1), 1);
        due(look(0, 2), FIXED);
    }

    @Promise(of = 19, says = "else a VOTE that would go on can't be CLOSED: one that would not is")
    void closeWhatWouldNotGoOn() {
        staff(2, 2);
        law("o9");
        propose(0);
        propose(0);
        fixToday(0);
        say(1, true, 0);
        due(close(1), PASSED);
        due(close(1), DROPPED);
        dueOf(1, DROPPED, 1, 0, NONE);
        dueOf(0, FIXED, 1, 1, 0);
    }

    @Promise(of = 19, says = "what was FIXED of that VERSE is REPLACED")
    void closeReplacesOfThatVerseAlone() {
        staff(1, 1);
        verse(0, 0);
        tokens(1, 0, 4);
        propose(0);
        slots(0, 1, 0, 0);
        propose(0);
        propose(0);
        fixToday(0);
        fixToday(1);
        now(1);
        fixToday(2);
        due(look(0, 2), REPLACED);
        due(look(1, 2), FIXED);
        now(2);
        fixToday(3);
        due(look(0, 2), REPLACED);
        due(look(2, 2), REPLACED);
        due(look(3, 2), FIXED);
        due(count(24), 2);
        due(count(22), 2);
        due(count(9), 2);
    }

    // ------------------------------------------------------------------ promise 20: voids

    @Promise(of = 20, says = "NONE: no such one")
    void voidsOfNoSuchOne() {
        due(voids(0), NONE);
        staff(1, 1);
        for (int odd : new int[] {1, -1, 24, 32, MOST, LEAST}) {
            due(voids(odd), NONE);
        }
        propose(0);
        due(vote(0, 0, true), true);
        due(voids(0), 0);
    }

    @Promise(of = 20, says = "VOID already")
    void voidsAgain() {
        staff(3, 0);
        propose(0);
        say(0, true, 0, 1, 2);
        due(close(0), PASSED);
        due(voids(0), 0);
        due(look(0, 7), 2);
        due(voids(0), NONE);
        due(look(0, 7), 2);
    }

    @Promise(of = 20, says = "the SCHOLARS one less, and one YES less if it was one: of a yes")
    void voidsOfYes() {
        staff(3, 0);
        propose(0);
        say(0, true, 0, 1);
        due(close(0), PASSED);
        due(voids(0), 0);
        dueOf(0, PASSED, 1, NONE, NONE);
        due(voids(1), 1);
        dueOf(0, PROPOSED, NONE, NONE, NONE);
    }

    @Promise(of = 20, says = "the SCHOLARS one less, and one YES less if it was one: of a no")
    void voidsOfNo() {
        staff(3, 0);
        law("v0.33");
        propose(0);
        say(0, true, 0);
        say(0, false, 1, 2);
        due(close(0), PASSED);
        due(voids(1), 0);
        dueOf(0, PASSED, 1, NONE, NONE);
        due(voids(2), 0);
        dueOf(0, PASSED, 1, NONE, NONE);
        due(voids(0), 1);
        dueOf(0, PROPOSED, NONE, NONE, NONE);
    }

    @Promise(of = 20, says = "none left: not")
    void voidsOfTheLastOne() {
        staff(1, 1);
        law("v0.0;v1.0");
        propose(0);
        say(0, false, 0);
        due(close(0), PASSED);
        due(voids(0), 1);
        dueOf(0, PROPOSED, NONE, NONE, NONE);
        due(close(0), NONE);
        // likewise of stage 1
        due(scholar(0, true), 1);
        due(scholar(0, false), 2);
        propose(1);
        due(close(1), PASSED);
        say(1, false, 1);
        due(close(1), FIXED);
        due(voids(1), 1);
        dueOf(1, PASSED, 0, NONE, NONE);
    }

    @Promise(of = 20, says = "if that SCHOLAR had a vote: one who gave none is no vote less")
    void voidsOfOneWithoutVote() {
        staff(4, 4);
        propose(0);
        say(0, true, 0, 1);
        due(close(0), PASSED);
        say(0, true, 0, 1);
        due(close(0), FIXED);
        due(voids(2), 0);
        dueOf(0, FIXED, 2, 2, 0);
        // of four SCHOLARS, still: one YES of three is too few
        due(voids(0), 1);
        dueOf(0, PROPOSED, NONE, NONE, NONE);
    }

    @Promise(of = 20, says = "the hundredths are kept with it")
    void voidsByTheNeedOfThen() {
        staff(3, 0);
        propose(0);
        say(0, true, 0, 1);
        say(0, false, 2);
        due(close(0), PASSED);
        law("v0.100");
        due(voids(0), 0);
        dueOf(0, PASSED, 1, NONE, NONE);
        fresh();
        staff(3, 0);
        law(NONE, 0, 0, "v0.60");
        propose(0);
        say(0, true, 0, 1);
        due(close(0), PASSED);
        now(1);
        due(asks(0, 1, 0), 50);
        due(voids(0), 1);
    }

    @Promise(of = 20, says = "how many SCHOLARS there were is kept with it")
    void voidsByTheScholarsOfThen() {
        staff(2, 0);
        propose(0);
        say(0, true, 0, 1);
        due(close(0), PASSED);
        for (int i = 0; i < 5; i++) {
            scholar(0, false);
        }
        due(voids(0), 0);
        dueOf(0, PASSED, 1, NONE, NONE);
    }

    @Promise(of = 20, says = "else if it is FIXED and stage 1 would not have likewise, it is PASSED again")
    void voidsOfStageOne() {
        staff(3, 2);
        propose(0);
        say(0, true, 0, 1, 2);
        due(close(0), PASSED);
        say(0, true, 0);
        now(3);
        due(close(0), FIXED);
        dueOf(0, FIXED, 3, 1, 3);
        now(4);
        due(voids(0), 1);
        // stage 0 stands, and is less by that vote
        dueOf(0, PASSED, 2, NONE, NONE);
        due(fixed(0), NONE);
        due(fixedOn(0, 3), 0);
        due(fixedOn(0, 4), NONE);
        due(count(21), 1);
        due(count(9), 0);
        // two of two are left in stage 0
        due(voids(2), 0);
        dueOf(0, PASSED, 1, NONE, NONE);
    }

    @Promise(of = 20, says = "a stage that stands is less by that vote, too: of both stages of one that is FIXED")
    void voidsLeavesBothStages() {
        staff(3, 3);
        propose(0);
        say(0, true, 0, 1, 2);
        close(0);
        say(0, true, 0, 1);
        say(0, false, 2);
        due(close(0), FIXED);
        dueOf(0, FIXED, 3, 2, 0);
        due(voids(2), 0);
        dueOf(0, FIXED, 2, 2, 0);
        due(voids(1), 0);
        dueOf(0, FIXED, 1, 1, 0);
        due(voids(0), 1);
        dueOf(0, PROPOSED, NONE, NONE, NONE);
    }

    @Promise(of = 20, says = "it is PROPOSED again: by stage 0, whatever stage 1 is")
    void voidsOfStageZeroFirst() {
        staff(1, 1);
        scholar(0, true);
        law("v0.100;v1.0");
        propose(0);
        say(0, true, 0, 1);
        due(close(0), PASSED);
        say(0, true, 1);
        due(close(0), FIXED);
        due(voids(0), 0);
        dueOf(0, FIXED, 1, 1, 0);
        due(voids(1), 1);
        dueOf(0, PROPOSED, NONE, NONE, NONE);
        due(fixed(0), NONE);
    }

    @Promise(of = 20, says = "each RENDERING that is PASSED or FIXED, by numbers: how many RENDERINGS went back")
    void voidsOfMany() {
        staff(2, 2);
        verse(0, 0);
        tokens(1, 0, 4);
        for (int r = 0; r < 5; r++) {
            propose(0);
        }
        slots(0, 1, 0, 0);
        // 0 is REPLACED by 1, 2 is PASSED, 3 DROPPED, 4 PROPOSED, 5 FIXED
        fixToday(0);
        now(1);
        fixToday(1);
        say(2, true, 0);
        due(close(2), PASSED);
        say(3, false, 0);
        due(close(3), DROPPED);
        say(4, true, 0);
        fixToday(5);
        due(voids(0), 3);
        dueOf(0, REPLACED, 1, 1, 0);
        dueOf(1, PROPOSED, NONE, NONE, NONE);
        dueOf(2, PROPOSED, NONE, NONE, NONE);
        dueOf(3, DROPPED, 0, NONE, NONE);
        dueOf(4, PROPOSED, NONE, NONE, NONE);
        dueOf(5, PROPOSED, NONE, NONE, NONE);
        due(fixed(0), NONE);
        due(fixed(1), NONE);
    }

    @Promise(of = 20, says = "what is DROPPED or REPLACED keeps what it has")
    void voidsLeavesDroppedOnes() {
        staff(2, 2);
        propose(0);
        say(0, true, 0);
        due(close(0), PASSED);
        due(close(0), DROPPED);
        dueOf(0, DROPPED, 1, 0, NONE);
        due(voids(0), 0);
        dueOf(0, DROPPED, 1, 0, NONE);
    }

    @Promise(of = 20, says = "Votes that are not VOID stay: of stage 0")
    void voidsLeavesVotes() {
        staff(3, 3);
        law("v0.60;v1.0");
        propose(0);
        say(0, true, 0, 1);
        due(close(0), PASSED);
        due(voids(0), 1);
        dueOf(0, PROPOSED, NONE, NONE, NONE);
        due(scholar(0, false), 3);
        due(vote(3, 0, true), true);
        // 1 and 3 of 1, 2, 3
        due(close(0), PASSED);
        dueOf(0, PASSED, 2, NONE, NONE);
    }

    @Promise(of = 20, says = "Votes that are not VOID stay: of stage 1")
    void voidsLeavesVotesOfTheCentre() {
        staff(3, 3);
        law("v0.0;v1.60");
        propose(0);
        due(close(0), PASSED);
        say(0, true, 0, 1);
        due(close(0), FIXED);
        due(voids(0), 1);
        dueOf(0, PASSED, 0, NONE, NONE);
        due(vote(2, 0, true), true);
        due(close(0), FIXED);
        dueOf(0, FIXED, 0, 2, 0);
    }

    @Promise(of = 20, says = "VOID are all votes from now on, also past ones that were not CLOSED yet")
    void voidsOfVotesNotClosed() {
        staff(3, 3);
        law("v0.0;v1.0");
        propose(0);
        say(0, true, 0, 1);
        due(voids(0), 0);
        due(close(0), PASSED);
        due(look(0, 7), 1);
        say(0, true, 1, 2);
        due(voids(1), 0);
        dueOf(0, PASSED, 0, NONE, NONE);
        due(close(0), FIXED);
        dueOf(0, FIXED, 0, 1, 0);
    }

    @Promise(of = 20, says = "it would not have gone on: as many as are needed still are enough, one hundredth less is not")
    void voidsAtTheEdge() {
        staff(3, 0);
        law("v0.50");
        propose(0);
        say(0, true, 0, 1);
        close(0);
        due(voids(0), 0);
        fresh();
        staff(3, 0);
        law("v0.51");
        propose(0);
        say(0, true, 0, 1);
        due(close(0), PASSED);
        due(voids(0), 1);
    }

    @Promise(of = 20, says = "all of 24 SCHOLARS, one after the other: as many as are left have to be enough")
    void voidsOfTwentyFour() {
        staff(24, 0);
        law("v0.100");
        propose(0);
        for (int s = 0; s < 24; s++) {
            say(0, true, s);
        }
        due(close(0), PASSED);
        due(look(0, 7), 24);
        for (int s = 23; s > 0; s--) {
            due(voids(s), 0);
            dueOf(0, PASSED, s, NONE, NONE);
        }
        due(voids(0), 1);
        dueOf(0, PROPOSED, NONE, NONE, NONE);
        due(close(0), NONE);
    }

    @Promise(of = 20, says = "how many RENDERINGS went back: a hundred of them")
    void voidsOfAHundred() {
        staff(1, 0);
        for (int r = 0; r < 100; r++) {
            feed(0, 0, 0, 0, 0);
            render(0, 0, 1);
            vote(0, r, true);
            close(r);
        }
        due(count(21), 100);
        due(voids(0), 100);
        due(count(21), 0);
        due(count(20), 100);
        dueOf(99, PROPOSED, NONE, NONE, NONE);
    }

    @Promise(of = 20, says = "a VERSE may be without anything FIXED then; what was REPLACED stays so")
    void voidsLeavesNothingFixed() {
        staff(2, 2);
        propose(0);
        propose(0);
        propose(0);
        say(0, true, 1);
        close(0);
        say(0, true, 1);
        due(close(0), FIXED);
        now(1);
        fixToday(1);
        now(2);
        due(voids(0), 1);
        due(fixed(0), NONE);
        due(look(0, 2), REPLACED);
        due(look(0, 9), 0);
        due(count(9), 0);
        // nothing is FIXED: on this DAY, too, another one may be
        law("o9");
        say(2, true, 1);
        due(close(2), PASSED);
        say(2, true, 1);
        due(close(2), FIXED);
        due(fixed(0), 2);
    }

    @Promise(of = 20, says = "VOID from now on: no votes, no RENDERINGS, none of the stage's SCHOLARS")
    void voidsFromNowOn() {
        staff(2, 1);
        propose(0);
        due(voids(0), 0);
        due(vote(0, 0, false), false);
        due(propose(0), NONE);
        say(0, true, 1);
        due(close(0), PASSED);
        due(close(0), NONE);
        now(9);
        due(vote(0, 0, true), false);
        due(look(0, 0), 0);
        due(count(4), 2);
    }

    // ------------------------------------------------------------------ promise 21: fixed

    @Promise(of = 21, says = "NONE: nothing, no such one")
    void fixedOfNothing() {
        due(fixed(0), NONE);
        staff(1, 1);
        for (int odd : new int[] {0, 1, -1, 59, 60, MOST, LEAST}) {
            due(fixed(odd), NONE);
        }
        propose(0);
        due(fixed(0), NONE);
        say(0, true, 0);
        close(0);
        due(fixed(0), NONE);
        say(0, true, 0);
        close(0);
        due(fixed(0), 0);
        due(fixed(1), NONE);
    }

    @Promise(of = 21, says = "What is FIXED of VERSE v: what was dropped, replaced or is void is not")
    void fixedOfThatVerse() {
        staff(2, 2);
        verse(0, 0);
        tokens(1, 0, 4);
        propose(0);
        slots(0, 1, 0, 0);
        propose(0);
        propose(0);
        fixToday(1);
        due(fixed(0), NONE);
        due(fixed(1), 1);
        fixToday(0);
        due(close(2), DROPPED);
        due(fixed(0), 0);
        now(1);
        fixToday(3);
        due(fixed(0), 3);
        voids(0);
        due(fixed(0), NONE);
        due(fixed(1), NONE);
    }

    // ------------------------------------------------------------------ promise 22: fixedOn

    @Promise(of = 22, says = "FIXED ON a DAY (not behind NOW)")
    void fixedOnTillNow() {
        staff(1, 1);
        propose(0);
        now(4);
        fixToday(0);
        due(fixedOn(0, 4), 0);
        due(fixedOn(0, 5), NONE);
        due(fixedOn(0, LAST_DAY), NONE);
        due(fixedOn(0, 3), NONE);
        due(fixedOn(0, 0), NONE);
        due(fixedOn(0, -1), NONE);
        now(5);
        due(fixedOn(0, 5), 0);
        due(fixedOn(0, 6), NONE);
        due(fixedOn(0, MOST), NONE);
        due(fixedOn(0, LEAST), NONE);
        now(LAST_DAY);
        due(fixedOn(0, LAST_DAY), 0);
        due(fixedOn(0, LAST_DAY + 1), NONE);
    }

    @Promise(of = 22, says = "NONE: no such ones")
    void fixedOnOfNoVerse() {
        due(fixedOn(0, 0), NONE);
        staff(1, 1);
        propose(0);
        fixToday(0);
        for (int odd : new int[] {1, -1, 60, MOST, LEAST}) {
            due(fixedOn(odd, 0), NONE);
        }
        due(fixedOn(0, 0), 0);
    }

    @Promise(of = 22, says = "the RENDERING that was FIXED of a VERSE at the end of that DAY")
    void fixedOnTheEndOfTheDay() {
        staff(1, 1);
        verse(0, 0);
        tokens(1, 0, 4);
        propose(0);
        propose(0);
        slots(0, 1, 0, 0);
        fixToday(0);
        now(3);
        fixToday(2);
        fixToday(1);
        now(7);
        int[] want = {0, 0, 0, 1, 1, 1, 1, 1};
        for (int day = 0; day < want.length; day++) {
            due(fixedOn(0, day), want[day]);
            due(fixedOn(1, day), day < 3 ? NONE : 2);
        }
    }

    @Promise(of = 22, says = "the RENDERING that was FIXED of a VERSE: another one on each of 90 DAYS")
    void fixedOnManyDays() {
        staff(1, 1);
        law("v0.0;v1.0");
        for (int r = 0; r < 90; r++) {
            now(40 * r);
            feed(0, 0, 0, 0, 0);
            render(0, 0, 1);
            close(r);
            close(r);
        }
        for (int r = 1; r < 90; r += 11) {
            due(fixedOn(0, 40 * r - 1), r - 1);
            due(fixedOn(0, 40 * r), r);
            due(fixedOn(0, 40 * r + 39), 40 * r + 39 > 40 * 89 ? NONE : r);
        }
        due(fixed(0), 89);
        due(count(24), 89);
    }

    @Promise(of = 22, says = "what became VOID since was FIXED till then")
    void fixedOnBeforeVoid() {
        staff(2, 2);
        propose(0);
        propose(0);
        now(2);
        fixToday(0);
        now(5);
        due(voids(0), 1);
        due(fixedOn(0, 5), NONE);
        now(7);
        say(0, true, 1);
        due(close(0), PASSED);
        say(0, true, 1);
        due(close(0), FIXED);
        now(9);
        int[] want = {NONE, NONE, 0, 0, 0, NONE, NONE, 0, 0, 0};
        for (int day = 0; day < want.length; day++) {
            due(fixedOn(0, day), want[day]);
        }
        due(look(0, 9), 7);
    }

    @Promise(of = 22, says = "at the end of that DAY: FIXED and VOID on one DAY, and another one FIXED on it")
    void fixedOnOneDay() {
        staff(2, 2);
        propose(0);
        propose(0);
        now(2);
        fixToday(0);
        due(fixedOn(0, 2), 0);
        due(voids(0), 1);
        due(fixedOn(0, 2), NONE);
        say(1, true, 1);
        due(close(1), PASSED);
        say(1, true, 1);
        due(close(1), FIXED);
        due(fixedOn(0, 2), 1);
        due(fixedOn(0, 1), NONE);
        now(3);
        due(fixedOn(0, 2), 1);
    }

    // ------------------------------------------------------------------ promise 39: look

    @Promise(of = 39, says = "NONE for others: no such RENDERING")
    void lookOfNoRendering() {
        staff(1, 1);
        due(look(0, 0), NONE);
        propose(0);
        for (int odd : new int[] {1, -1, 200, MOST, LEAST}) {
            for (int what : new int[] {0, 2, 6, 9, 20}) {
                due(look(odd, what), NONE);
            }
        }
        due(look(0, 0), 0);
    }

    @Promise(of = 39, says = "NONE for others: what 0 to 9, then from 20 on")
    void lookOtherThings() {
        staff(1, 1);
        now(3);
        propose(0);
        fixToday(0);
        int[] want = {0, 0, FIXED, 3, 0, 1, 0, 1, 1, 3};
        for (int what = 0; what < want.length; what++) {
            due(look(0, what), want[what]);
        }
        for (int what = 10; what < 20; what++) {
            due(look(0, what), NONE);
        }
        for (int odd : new int[] {-1, -20, LEAST, LEAST + 20, MOST, MOST - 1}) {
            due(look(0, odd), NONE);
        }
    }

    @Promise(of = 39, says = "20 + 2 i, 21 + 2 i WORD and TOKEN of SLOT i")
    void lookSlots() {
        office();
        verse(0, 0);
        tokens(0, 0, 1, 2, 3, 4, 5, 6, 7, 8);
        int[] row = new int[24];
        for (int i = 0; i < 12; i++) {
            row[2 * i] = i % 3;
            row[2 * i + 1] = i < 9 ? 8 - i : 0;
        }
        slots(0, 0, row);
        for (int i = 0; i < 24; i++) {
            due(look(0, 20 + i), row[i]);
        }
        due(look(0, 44), NONE);
        due(look(0, 45), NONE);
        slots(0, 0, 2, 7);
        due(look(1, 20), 2);
        due(look(1, 21), 7);
        due(look(1, 22), NONE);
        due(look(1, 23), NONE);
        due(look(1, 5), 1);
        due(look(0, 5), 12);
    }

    @Promise(of = 39, says = "6 LEFT TOKENS (bits): a TOKEN that no SLOT turns")
    void lookLeft() {
        office();
        verse(0, 0);
        tokens(0, 0, 1, 2, 3, 4, 5, 6, 7, 8);
        slots(0, 0, 0, 8);
        slots(0, 0, 0, 7);
        slots(0, 0, 0, 0, 1, 0);
        slots(0, 0, 0, 0, 0, 1, 0, 2, 0, 3, 0, 4, 0, 5, 0, 6, 0, 7);
        tokens(0, 0, 1);
        slots(0, 0, 0, 8);
        slots(0, 0, 0, 0, 0, 8);
        int[] want = {255, 127, 254, 0, 1, 0};
        for (int r = 0; r < want.length; r++) {
            due(look(r, 6), want[r]);
        }
    }

    @Promise(of = 39, says = "7, 8 YES of its stage 0, 1 when CLOSED (NONE: not, or not any more)")
    void lookYes() {
        staff(2, 2);
        propose(0);
        say(0, true, 0, 1);
        dueOf(0, PROPOSED, NONE, NONE, NONE);
        close(0);
        dueOf(0, PASSED, 2, NONE, NONE);
        say(0, true, 0);
        dueOf(0, PASSED, 2, NONE, NONE);
        close(0);
        dueOf(0, FIXED, 2, 1, 0);
        voids(0);
        dueOf(0, PASSED, 1, NONE, NONE);
        voids(1);
        dueOf(0, PROPOSED, NONE, NONE, NONE);
        staffOfZeroYes();
    }

    private void staffOfZeroYes() {
        fresh();
        staff(1, 1);
        law("v0.0;v1.0");
        propose(0);
        close(0);
        dueOf(0, PASSED, 0, NONE, NONE);
        close(0);
        dueOf(0, FIXED, 0, 0, 0);
        propose(0);
        law("v0.1");
        close(1);
        dueOf(1, DROPPED, 0, NONE, NONE);
    }

    @Promise(of = 39, says = "9 the DAY on which it was FIXED (NONE: it is not, and was not REPLACED)")
    void lookFixedDay() {
        staff(2, 2);
        propose(0);
        propose(0);
        propose(0);
        due(look(0, 9), NONE);
        fixToday(0);
        due(look(0, 9), 0);
        now(LAST_DAY);
        due(look(0, 9), 0);
        fixToday(1);
        due(look(0, 9), 0);
        due(look(1, 9), LAST_DAY);
        close(2);
        due(look(2, 2), DROPPED);
        due(look(2, 9), NONE);
        due(voids(0), 1);
        due(look(1, 9), NONE);
        due(look(0, 9), 0);
    }

    @Promise(of = 39, says = "3 the DAY of it: from day 0 to the last one")
    void lookMadeDay() {
        staff(1, 1);
        propose(0);
        now(LAST_DAY);
        propose(0);
        fixToday(0);
        due(look(0, 3), 0);
        due(look(1, 3), LAST_DAY);
        due(look(0, 9), LAST_DAY);
    }

    @Promise(of = 39, says = "0 SCHOLAR, 1 VERSE, 4 the COPY on which it rests: the last ones")
    void lookTheLastOnes() {
        newWord("in");
        company(1, 1);
        for (int s = 0; s < 24; s++) {
            scholar(0, false);
        }
        for (int v = 0; v < 60; v++) {
            verse(0, 0);
        }
        tokens(59, 2, 159);
        slots(23, 59, 0, 0);
        due(look(0, 0), 23);
        due(look(0, 1), 59);
        due(look(0, 4), 2);
    }
}
