/** The edges of READERS, CHANGES, what is PRINTED, THE PLAN, CHECK and what is counted: promises 32 to 38 and 40. */
public final class ReaderEdgesTest extends Sentences {
    public static void main(String[] args) {
        run(ReaderEdgesTest.class);
    }

    // ------------------------------------------------------------------ promise 32: reads

    @Promise(of = 32, says = "READERS 0 to 9: no such ones")
    void readsByReaders() {
        verse(0, 0);
        for (int odd : new int[] {10, -1, 32, MOST, LEAST}) {
            due(reads(odd, 0, 0, false), false);
        }
        due(reads(0, 0, 0, false), true);
        due(missed(0), 0);
        due(reads(9, 0, 0, false), true);
        due(missed(0), 1);
    }

    @Promise(of = 32, says = "of a TOKEN of a VERSE: no such ones")
    void readsOfVerses() {
        due(reads(0, 0, 0, false), false);
        verse(0, 0);
        for (int odd : new int[] {1, -1, 60, MOST, LEAST}) {
            due(reads(0, odd, 0, false), false);
        }
        due(reads(0, 0, 0, false), true);
    }

    @Promise(of = 32, says = "a TOKEN (0 to 7), whatever its SOURCE has")
    void readsOfTokens() {
        verse(0, 0);
        for (int k = 0; k < 2; k++) {
            for (int odd : new int[] {8, -1, 9, MOST, LEAST}) {
                due(reads(k, 0, odd, false), false);
            }
            due(reads(k, 0, 0, false), true);
            due(reads(k, 0, 7, false), true);
        }
        due(missed(0), 129);
    }

    @Promise(of = 32, says = "the latest counts")
    void readsTheLatest() {
        verse(0, 0);
        reads(0, 0, 3, false);
        reads(1, 0, 3, false);
        due(missed(0), 8);
        reads(1, 0, 3, false);
        due(missed(0), 8);
        reads(1, 0, 3, true);
        due(missed(0), 0);
        reads(1, 0, 3, true);
        reads(1, 0, 3, false);
        due(missed(0), 8);
    }

    // ------------------------------------------------------------------ promise 33: missed

    @Promise(of = 33, says = "two or more told that they took it wrong")
    void missedByTwo() {
        verse(0, 0);
        due(missed(0), 0);
        reads(4, 0, 1, false);
        due(missed(0), 0);
        reads(5, 0, 1, false);
        due(missed(0), 2);
        reads(5, 0, 2, false);
        reads(5, 0, 2, false);
        due(missed(0), 2);
    }

    @Promise(of = 33, says = "more than half of those who told of it")
    void missedByMoreThanHalf() {
        verse(0, 0);
        for (int wrong = 0; wrong <= 10; wrong++) {
            for (int right = 0; wrong + right <= 10; right++) {
                if (callsLeft() < 20) {
                    fresh();
                    verse(0, 0);
                }
                int v = verse(0, 0);
                if (v == NONE) {
                    fresh();
                    v = verse(0, 0);
                }
                for (int k = 0; k < wrong + right; k++) {
                    reads(k, v, 5, k >= wrong);
                }
                due(missed(v), wrong >= 2 && wrong > right ? 32 : 0);
            }
        }
    }

    @Promise(of = 33, says = "those who told of it: a READER who tells again is one of them, and once")
    void missedByEachReaderOnce() {
        verse(0, 0);
        for (int times = 1; times <= 4; times++) {
            reads(0, 0, 5, false);
            reads(1, 0, 5, false);
            due(missed(0), times == 1 ? 32 : 0);
            reads(2, 0, 5, true);
            reads(3, 0, 5, true);
            due(missed(0), 0);
        }
        for (int times = 1; times <= 3; times++) {
            reads(4, 0, 5, false);
            due(missed(0), 32);
        }
        reads(0, 0, 5, true);
        due(missed(0), 0);
    }

    @Promise(of = 33, says = "as bits, of each TOKEN and VERSE by itself")
    void missedOfEachToken() {
        for (int v = 0; v < 60; v++) {
            verse(0, 0);
        }
        for (int token = 0; token < 8; token++) {
            reads(0, 59, token, false);
            reads(1, 58, token, false);
            due(missed(59), (1 << token) - 1);
            reads(9, 59, token, false);
        }
        due(missed(59), 255);
        due(missed(58), 0);
        due(missed(0), 0);
    }

    @Promise(of = 33, says = "NONE: no such one")
    void missedOfNoVerse() {
        due(missed(0), NONE);
        verse(0, 0);
        due(missed(0), 0);
        for (int odd : new int[] {1, -1, 60, MOST, LEAST}) {
            due(missed(odd), NONE);
        }
    }

    // ------------------------------------------------------------------ promise 34: changes

    @Promise(of = 34, says = "NONE: no such ones: VERSES")
    void changesOfNoVerse() {
        due(changes(0, 0, 0), NONE);
        verse(0, 0);
        due(changes(0, 0, 0), 0);
        for (int odd : new int[] {1, -1, 60, MOST, LEAST}) {
            due(changes(odd, 0, 0), NONE);
        }
    }

    @Promise(of = 34, says = "between two DAYS (not behind NOW)")
    void changesTillNow() {
        verse(0, 0);
        now(5);
        due(changes(0, 0, 5), 0);
        due(changes(0, 5, 0), 0);
        for (int odd : new int[] {6, -1, LAST_DAY, 4000, MOST, LEAST}) {
            due(changes(0, odd, 0), NONE);
            due(changes(0, 0, odd), NONE);
            due(changes(0, odd, odd), NONE);
        }
        now(LAST_DAY);
        due(changes(0, LAST_DAY, LAST_DAY), 0);
        due(changes(0, 6, 0), 0);
        due(changes(0, 0, 4000), NONE);
    }

    @Promise(of = 34, says = "none FIXED: an empty row; of one to twelve WORDS")
    void changesFromNothing() {
        office();
        verse(0, 0);
        tokens(0, 0, 4, 8);
        now(1);
        fix(0, 0, 0);
        now(2);
        fix(0, 1, 0, 1, 1, 2, 0, 1, 0, 1, 1, 2, 0, 1, 0, 1, 1, 2, 0, 1, 0, 1, 1, 2, 8);
        now(3);
        fix(0, 2, 0, 2, 0, 2, 0, 2, 0, 2, 0, 2, 0, 2, 0, 2, 0, 2, 0, 2, 0, 2, 0, 2, 0);
        now(4);
        fix(0, 0, 0, 0, 0, 0, 0, 0, 0, 0, 0, 0, 0, 0, 0, 0, 0, 0, 0, 0, 0, 0, 0, 0, 0);
        int[][] want = {{0, 1, 12, 12, 12}, {1, 0, 12, 12, 11}, {12, 12, 0, 8, 12}, {12, 12, 8, 0, 12}, {12, 11, 12, 12, 0}};
        for (int a = 0; a < 5; a++) {
            for (int b = 0; b < 5; b++) {
                due(changes(0, a, b), want[a][b]);
            }
        }
    }

    @Promise(of = 34, says = "the fewest WORDS put in, left out, or put for another one")
    void changesEachWay() {
        office();
        verse(0, 0);
        tokens(0, 0, 4, 8);
        now(1);
        fix(0, 0, 0, 1, 0, 2, 0);
        int[][] rows = {{0, 8, 1, 1, 2, 0}, {0, 0, 1, 0}, {1, 0, 2, 0}, {0, 0, 2, 0}, {0, 0, 1, 0, 2, 0, 0, 0}, {0, 0, 0, 0, 1, 0, 2, 0},
            {2, 0, 1, 0, 0, 0}, {1, 0, 0, 0, 2, 0}, {2, 0, 0, 0, 1, 0}, {0, 0, 0, 0, 2, 0}, {1, 0}};
        int[] want = {0, 1, 1, 1, 1, 1, 2, 2, 2, 1, 2};
        for (int i = 0; i < rows.length; i++) {
            now(i + 2);
            fix(0, rows[i]);
            due(changes(0, 1, i + 2), want[i]);
            due(changes(0, i + 2, 1), want[i]);
        }
    }

    @Promise(of = 34, says = "what became VOID since was FIXED till then")
    void changesOfWhatIsVoid() {
        office();
        scholar(0, true);
        law("v0.1;v1.1");
        verse(0, 0);
        tokens(0, 0, 4);
        now(1);
        slots(0, 0, 0, 0, 1, 0);
        vote(1, 0, true);
        close(0);
        vote(1, 0, true);
        close(0);
        now(2);
        due(changes(0, 0, 1), 2);
        due(changes(0, 1, 2), 0);
        due(voids(1), 1);
        due(changes(0, 1, 2), 2);
        due(changes(0, 0, 2), 0);
    }

    // ------------------------------------------------------------------ promise 35: printed

    @Promise(of = 35, says = "NONE: there is none such: VERSES, nothing FIXED")
    void printedOfNothing() {
        due(printed(0, 0, 0), NONE);
        office();
        verse(0, 0);
        tokens(0, 0, 4);
        slots(0, 0, 0, 0);
        due(printed(0, 0, 0), NONE);
        close(0);
        due(printed(0, 0, 0), NONE);
        close(0);
        due(printed(0, 0, 0), 'i');
        for (int odd : new int[] {1, -1, 60, MOST, LEAST}) {
            due(printed(0, odd, 0), NONE);
        }
    }

    @Promise(of = 35, says = "in an EDITION: 0 to 3")
    void printedInEditions() {
        office();
        verse(0, 0);
        tokens(0, 0, 4);
        fix(0, 0, 0);
        respell(0, 0, "yn");
        respell(3, 0, "inn");
        due(print(0, 0), "yn");
        due(print(1, 0), "in");
        due(print(2, 0), "in");
        due(print(3, 0), "inn");
        for (int odd : new int[] {4, -1, MOST, LEAST}) {
            due(printed(odd, 0, 0), NONE);
        }
    }

    @Promise(of = 35, says = "Byte i: the first, the last, and none beyond")
    void printedBytes() {
        office();
        verse(0, 0);
        tokens(0, 0, 4);
        fix(0, 0, 8, 1, 0);
        String text = "[in] god";
        for (int i = 0; i < text.length(); i++) {
            due(printed(0, 0, i), text.charAt(i));
        }
        for (int odd : new int[] {8, 9, -1, MOST, LEAST}) {
            due(printed(0, 0, odd), NONE);
        }
    }

    @Promise(of = 35, says = "with a blank between two, an ADDED one between [ and ]")
    void printedRows() {
        office();
        verse(0, 0);
        tokens(0, 0, 4);
        int[][] rows = {{0, 0}, {0, 8}, {0, 8, 1, 8}, {0, 0, 1, 8, 2, 0}, {0, 8, 1, 0, 2, 8}};
        String[] want = {"in", "[in]", "[in] [god]", "in [god] sky", "[in] god [sky]"};
        for (int i = 0; i < rows.length; i++) {
            now(i);
            fix(0, rows[i]);
            due(print(0, 0), want[i]);
        }
    }

    @Promise(of = 35, says = "the longest: twelve ADDED WORDS of twelve letters")
    void printedTheLongest() {
        newWord("abcdefghijkl");
        company(255, 1);
        scholar(0, true);
        law("v0.0;v1.0");
        verse(0, 0);
        tokens(0, 0, 4);
        fix(0, 0, 8, 0, 8, 0, 8, 0, 8, 0, 8, 0, 8, 0, 8, 0, 8, 0, 8, 0, 8, 0, 8, 0, 8);
        due(print(2, 0), times(11, "[abcdefghijkl] ") + "[abcdefghijkl]");
        due(printed(2, 0, 178), ']');
        due(printed(2, 0, 179), NONE);
    }

    @Promise(of = 35, says = "by what is FIXED")
    void printedByWhatIsFixed() {
        office();
        scholar(0, true);
        law("v0.1;v1.1");
        verse(0, 0);
        tokens(0, 0, 4);
        for (int r = 0; r < 2; r++) {
            slots(0, 0, r, 0);
            vote(r, r, true);
            close(r);
            vote(r, r, true);
        }
        close(0);
        due(print(0, 0), "in");
        now(1);
        close(1);
        due(print(0, 0), "god");
        due(voids(1), 1);
        due(print(0, 0), "");
    }

    // ------------------------------------------------------------------ promise 36: plan

    private void verses(int book, int n) {
        for (int i = 0; i < n; i++) {
            verse(book, 0);
        }
    }

    @Promise(of = 36, says = "no BOOKS: 0 DAYS")
    void planOfNoBooks() {
        due(plan(NONE), 0);
        due(plan(0), NONE);
        company(255, 1);
        centre(1);
        due(plan(NONE), 0);
        due(plan(0), NONE);
        due(plan(-2), NONE);
    }

    @Promise(of = 36, says = "NONE: none such")
    void planOfOthers() {
        company(255, 1);
        centre(1);
        verse(3, 0);
        due(plan(NONE), 1);
        due(plan(0), 0);
        for (int odd : new int[] {1, 6, -2, MOST, LEAST}) {
            due(plan(odd), NONE);
        }
    }

    @Promise(of = 36, says = "NONE: there is no PLAN: a BOOK that no COMPANY has, a RATE of 0, a CENTRE of 0")
    void planOfNone() {
        verse(1, 0);
        centre(1);
        due(plan(NONE), NONE);
        due(plan(0), NONE);
        company(1, 1);
        due(plan(NONE), NONE);
        company(2, 0);
        due(plan(NONE), NONE);
        due(plan(0), NONE);
        company(2, 1);
        due(plan(NONE), 1);
        due(plan(0), 2);
        centre(0);
        due(plan(NONE), NONE);
        due(plan(0), NONE);
        centre(1);
        verse(0, 0);
        due(plan(NONE), 2);
        verse(7, 0);
        due(plan(NONE), NONE);
    }

    @Promise(of = 36, says = "rounded up: of COMPANIES")
    void planRoundedUp() {
        company(1, 4);
        centre(99);
        int[] want = {1, 1, 1, 1, 2, 2, 2, 2, 3};
        for (int n = 0; n < want.length; n++) {
            verse(0, 0);
            due(plan(NONE), want[n]);
        }
    }

    @Promise(of = 36, says = "of all of these VERSES through the CENTRE's, rounded up")
    void planOfTheCentre() {
        company(1, 99);
        company(2, 99);
        centre(3);
        int[] want = {1, 1, 1, 2, 2, 2, 3};
        for (int n = 0; n < want.length; n++) {
            verse(n % 2, 0);
            due(plan(NONE), want[n]);
        }
    }

    @Promise(of = 36, says = "RATE (VERSES a DAY; 0 to 99): the least and the greatest with 60 VERSES")
    void planOfSixty() {
        company(1, 1);
        centre(99);
        verses(0, 60);
        due(plan(NONE), 60);
        company(1, 99);
        due(plan(NONE), 1);
        due(plan(0), 1);
        centre(59);
        due(plan(NONE), 2);
        // of like ones the least row, though the other COMPANY is as quick
        company(1, 99);
        due(plan(0), 1);
    }

    @Promise(of = 36, says = "of fewest DAYS: a COMPANY's VERSES are those of all its BOOKS together")
    void planOfFewestDays() {
        company(7, 1);
        company(6, 1);
        company(4, 1);
        centre(99);
        verses(0, 2);
        verses(1, 2);
        verses(2, 2);
        due(plan(NONE), 2);
        for (int i = 0; i < 3; i++) {
            due(plan(i), i);
        }
        verses(0, 2);
        due(plan(NONE), 4);
        due(plan(0), 0);
        due(plan(1), 1);
        due(plan(2), 1);
    }

    @Promise(of = 36, says = "of like ones the least row: the first BOOK weighs most")
    void planOfLikeOnes() {
        for (int c = 0; c < 3; c++) {
            company(15, 1);
        }
        centre(99);
        for (int book = 0; book < 4; book++) {
            verse(book, 0);
        }
        // 0 0 1 1 is ahead of 0 0 1 2, of 0 1 0 1 and of 1 1 0 0
        due(plan(NONE), 2);
        int[] want = {0, 0, 1, 1};
        for (int i = 0; i < 4; i++) {
            due(plan(i), want[i]);
        }
    }

    @Promise(of = 36, says = "(from the lowest on, six at most)")
    void planOfSixBooks() {
        company(63, 1);
        centre(2);
        for (int book = 5; book >= 0; book--) {
            verse(book, 0);
        }
        due(plan(NONE), 6);
        verses(6, 9);
        verses(7, 9);
        due(plan(NONE), 6);
        due(plan(5), 0);
        due(plan(6), NONE);
        due(judge(0), 6);
        fresh();
        // BOOK 0 has none: now BOOK 6 is among the six, and BOOK 7 is not
        company(64, 1);
        company(63, 1);
        centre(99);
        for (int book = 7; book >= 1; book--) {
            verses(book, book == 6 ? 7 : 1);
        }
        due(plan(NONE), 7);
        int[] want = {1, 1, 1, 1, 1, 0, NONE};
        for (int i = 0; i < want.length; i++) {
            due(plan(i), want[i]);
        }
    }

    @Promise(of = 36, says = "OPEN of a BOOK are its VERSES with nothing FIXED")
    void planOfWhatIsOpen() {
        office();
        scholar(0, true);
        law("v0.1;v1.1");
        centre(1);
        for (int v = 0; v < 2; v++) {
            verse(v, 0);
            tokens(v, 0, 4);
            slots(0, v, 0, 0);
            vote(v, v, true);
            close(v);
            vote(v, v, true);
        }
        due(plan(NONE), 2);
        close(1);
        due(plan(NONE), 1);
        due(plan(0), 0);
        due(plan(1), NONE);
        close(0);
        due(plan(NONE), 0);
        due(plan(0), NONE);
        due(voids(1), 1);
        due(plan(NONE), 1);
        due(plan(1), NONE);
    }

    @Promise(of = 36, says = "six COMPANIES and six BOOKS")
    void planOfSixAndSix() {
        for (int c = 0; c < 6; c++) {
            company(63, c + 1);
        }
        centre(99);
        for (int book = 0; book < 6; book++) {
            verses(book, 6 - book);
        }
        // 6 5 4 3 2 1 VERSES; RATES 1 to 6
        due(plan(NONE), 1);
        int[] want = {5, 4, 3, 2, 1, 0};
        for (int i = 0; i < 6; i++) {
            due(plan(i), want[i]);
        }
        int row = 0;
        for (int i = 5; i >= 0; i--) {
            row = row * 6 + want[i];
        }
        due(judge(row), 1);
    }

    // ------------------------------------------------------------------ promise 37: judge

    @Promise(of = 37, says = "no BOOKS: a row without digits")
    void judgeOfNoBooks() {
        due(judge(0), 0);
        for (int odd : new int[] {1, 6, -1, MOST, LEAST}) {
            due(judge(odd), NONE);
        }
        company(255, 1);
        centre(1);
        due(judge(0), 0);
        due(judge(1), NONE);
    }

    @Promise(of = 37, says = "told as digits of 6, the first BOOK in the lowest place")
    void judgeOfDigits() {
        company(3, 1);
        company(2, 2);
        centre(99);
        verses(0, 3);
        verses(1, 2);
        due(judge(0), 5);
        due(judge(6), 3);
        due(judge(1), NONE);
        due(judge(7), NONE);
        due(judge(12), NONE);
        due(judge(36), NONE);
        due(judge(36 + 6), NONE);
        for (int odd : new int[] {-1, -6, -36, MOST, LEAST}) {
            due(judge(odd), NONE);
        }
    }

    @Promise(of = 37, says = "the greatest row and the first beyond")
    void judgeTheGreatest() {
        for (int c = 0; c < 6; c++) {
            company(255, 1);
        }
        centre(99);
        for (int book = 0; book < 8; book++) {
            verse(book, 0);
        }
        due(judge(46655), 6);
        due(judge(46656), NONE);
        due(judge(2 * 46656 - 1), NONE);
        due(judge(0), 6);
        due(judge(5 + 6 * 4 + 36 * 3 + 216 * 2 + 1296), 1);
    }

    @Promise(of = 37, says = "NONE: it can't be: a COMPANY that is not there, has not the BOOK, or a RATE of 0")
    void judgeThatCannotBe() {
        company(1, 0);
        company(2, 5);
        company(3, 5);
        centre(9);
        verse(0, 0);
        due(judge(0), NONE);
        due(judge(1), NONE);
        due(judge(2), 1);
        due(judge(3), NONE);
        due(judge(5), NONE);
        due(judge(8), NONE);
        centre(0);
        due(judge(2), NONE);
    }

    @Promise(of = 37, says = "DAYS: rounded up, of COMPANIES and of the CENTRE")
    void judgeRoundedUp() {
        company(1, 2);
        company(1, 3);
        centre(9);
        int[] want = {1, 1, 2, 2, 3, 3, 4};
        int[] other = {1, 1, 1, 2, 2, 2, 3};
        for (int n = 0; n < want.length; n++) {
            verse(0, 0);
            due(judge(0), want[n]);
            due(judge(1), other[n]);
        }
        centre(1);
        due(judge(0), 7);
        centre(2);
        due(judge(1), 4);
    }

    // ------------------------------------------------------------------ promise 38: check

    @Promise(of = 38, says = "n to 60; -2: no such n (the tape stays)")
    void checkOfNoSuchN() {
        for (int i = 0; i < 10; i++) {
            feed(0, 0, 0, 0, 0);
        }
        for (int odd : new int[] {61, 62, 100, 101, -1, -2, 1 << 30, (1 << 30) + 1, MOST, LEAST, LEAST + 1}) {
            due(check(odd), -2);
        }
        due(count(7), 200);
        due(check(60), 0);
        due(count(7), 0);
    }

    @Promise(of = 38, says = "-2: it has not so many (the tape stays)")
    void checkOfTooFew() {
        due(check(1), -2);
        due(check(60), -2);
        feed(0, 0, 0, 0, 0);
        due(check(11), -2);
        due(check(60), -2);
        due(count(7), 20);
        due(check(10), 0);
        due(count(7), 0);
    }

    @Promise(of = 38, says = "all that are FIXED: none, of an empty row")
    void checkOfNothing() {
        due(check(0), NONE);
        feed(0, 0, 0, 0, 0);
        due(check(0), NONE);
        due(count(7), 0);
        feed(0, 0, 0, 0, 0);
        due(check(1), 0);
    }

    private void threeFixed() {
        office();
        for (int v = 0; v < 4; v++) {
            verse(0, 0);
            tokens(v, 0, 4);
        }
        fix(3, 0, 0);
        fix(0, 0, 0);
        fix(2, 0, 0);
    }

    private int checkOf(int... bytes) {
        lay(bytes);
        int told = check(bytes.length / 2);
        due(count(7), 0);
        return told;
    }

    @Promise(of = 38, says = "NONE: right; else the place of the first byte that is not so")
    void checkPlaces() {
        threeFixed();
        due(checkOf(0, 1, 2, 2, 3, 0), NONE);
        due(checkOf(1, 1, 2, 2, 3, 0), 0);
        due(checkOf(0, 0, 2, 2, 3, 0), 1);
        due(checkOf(0, 1, 1, 2, 3, 0), 2);
        due(checkOf(0, 1, 2, 3, 3, 0), 3);
        due(checkOf(0, 1, 2, 2, 2, 0), 4);
        due(checkOf(0, 1, 2, 2, 3, 1), 5);
        due(checkOf(2, 2, 0, 1, 3, 0), 0);
        due(checkOf(0, 255, 255, 255, 255, 255), 1);
    }

    @Promise(of = 38, says = "(2 n: some are lacking)")
    void checkOfLacking() {
        threeFixed();
        due(checkOf(0, 1, 2, 2), 4);
        due(checkOf(0, 1), 2);
        lay(0, 1, 2, 2, 3, 0);
        due(check(0), 0);
        due(count(7), 0);
        due(checkOf(0, 1, 3, 0), 2);
        due(checkOf(0, 2), 1);
    }

    @Promise(of = 38, says = "a place too many is not so")
    void checkOfTooMany() {
        threeFixed();
        due(checkOf(0, 1, 2, 2, 3, 0, 3, 0), 6);
        due(checkOf(0, 1, 2, 2, 3, 0, 4, 0, 5, 0), 6);
        due(checkOf(0, 1, 2, 2, 3, 1, 4, 0), 5);
    }

    @Promise(of = 38, says = "the first 2 n bytes of the tape: what is behind does not matter")
    void checkOfTheFirstBytesAlone() {
        threeFixed();
        lay(0, 1, 2, 2, 3, 0, 9, 9, 9, 9);
        due(check(3), NONE);
        due(count(7), 0);
    }

    @Promise(of = 38, says = "all 60 VERSES")
    void checkOfSixty() {
        newWord("in");
        company(255, 1);
        scholar(0, true);
        law("v0.0;v1.0");
        int[] row = new int[120];
        for (int v = 0; v < 60; v++) {
            verse(0, 0);
            feed(0, 0, 0, 0, 0);
            source(v, 0, 1);
            feed(0, 0, 0, 0, 0);
            row[2 * v] = v;
            row[2 * v + 1] = render(0, v, 1);
            close(v);
            close(v);
        }
        lay(row);
        due(check(60), NONE);
        row[119]++;
        lay(row);
        due(check(60), 119);
        row[119]--;
        lay(row);
        due(check(59), 118);
    }

    @Promise(of = 38, says = "all that are FIXED: what is REPLACED or went back is not")
    void checkOfWhatIsFixed() {
        office();
        scholar(0, true);
        law("v0.1;v1.1");
        verse(0, 0);
        tokens(0, 0, 4);
        for (int r = 0; r < 2; r++) {
            slots(0, 0, 0, 0);
            vote(r, r, true);
            close(r);
            vote(r, r, true);
        }
        due(checkOf(0, 0), 0);
        close(0);
        due(checkOf(0, 0), NONE);
        now(1);
        close(1);
        due(checkOf(0, 0), 1);
        due(checkOf(0, 1), NONE);
        due(voids(1), 1);
        due(checkOf(0, 1), 0);
        lay(0);
        due(check(0), NONE);
    }

    // ------------------------------------------------------------------ promise 40: count

    @Promise(of = 40, says = "NONE for others")
    void countOfOthers() {
        for (int what = 0; what <= 10; what++) {
            due(count(what), 0);
        }
        for (int what = 11; what < 20; what++) {
            due(count(what), NONE);
        }
        for (int what = 20; what <= 24; what++) {
            due(count(what), 0);
        }
        for (int odd : new int[] {25, 26, -1, -20, MOST, LEAST, LEAST + 20}) {
            due(count(odd), NONE);
        }
    }

    @Promise(of = 40, says = "0 NOW, 1 VERSES, 2 WORDS, 3 COMPANIES, 4 SCHOLARS, 5 RULES, 6 RENDERINGS, 7 bytes of the tape, 8 SIGNS")
    void countOfEach() {
        now(9);
        verses(0, 8);
        for (String s : "a b c d e f g".split(" ")) {
            newWord(s);
        }
        for (int c = 0; c < 6; c++) {
            company(1, 1);
        }
        for (int s = 0; s < 5; s++) {
            scholar(0, false);
        }
        for (int i = 0; i < 4; i++) {
            law("s");
        }
        tokens(0, 0, 4);
        for (int r = 0; r < 3; r++) {
            slots(0, 0, 0, 0);
        }
        option(1, 0);
        option(1, 1);
        option(2, 0);
        feed(0, 0, 0, 0, 0);
        int[] want = {9, 8, 7, 6, 5, 4, 3, 20, 2, 0, 0};
        for (int what = 0; what < want.length; what++) {
            due(count(what), want[what]);
        }
    }

    @Promise(of = 40, says = "9 VERSES with something FIXED, 20 + s RENDERINGS in STATE s")
    void countOfStates() {
        office();
        scholar(0, true);
        law("v0.1;v1.1");
        verse(0, 0);
        tokens(0, 0, 4);
        for (int r = 0; r < 5; r++) {
            slots(0, 0, 0, 0);
        }
        int[][] want = {{0, 5, 0, 0, 0, 0}, {0, 4, 1, 0, 0, 0}, {1, 4, 0, 1, 0, 0}, {1, 3, 0, 1, 1, 0}, {1, 2, 1, 1, 1, 0},
            {1, 2, 0, 1, 1, 1}, {0, 3, 0, 0, 1, 1}};
        for (int step = 0; step < want.length; step++) {
            countStep(step);
            for (int s = -1; s < 5; s++) {
                due(count(s < 0 ? 9 : 20 + s), want[step][s + 1]);
            }
        }
    }

    private void countStep(int step) {
        now(step);
        switch (step) {
            case 1, 2 -> {
                vote(0, 0, true);
                close(0);
            }
            case 3 -> close(1);
            case 4, 5 -> {
                vote(1, 2, true);
                close(2);
            }
            case 6 -> voids(1);
            default -> {
            }
        }
    }

    @Promise(of = 40, says = "10 UNLIKE twos, of today")
    void countOfUnlike() {
        office();
        law(NONE, 1, 1, "s");
        for (int v = 0; v < 2; v++) {
            verse(0, 0);
            tokens(v, 0, 4, 8);
            fix(v, v, 0);
        }
        due(count(10), 0);
        now(1);
        due(count(10), 1);
        now(2);
        due(count(10), 0);
    }
}
