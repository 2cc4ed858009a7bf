/** The edges of the tape, VERSES, COPIES, WORDS, COMPANIES and SCHOLARS: promises 1 to 11, 15 and 16. */
public final class BookEdgesTest extends Sentences {
    public static void main(String[] args) {
        run(BookEdgesTest.class);
    }

    // ------------------------------------------------------------------ promise 1: a new object

    @Promise(of = 1, says = "DAY 0")
    void newAtDayZero() {
        due(count(0), 0);
        due(now(0), true);
        due(count(0), 0);
    }

    @Promise(of = 1, says = "no VERSES, WORDS, COMPANIES")
    void newWithoutAnything() {
        for (int what = 1; what <= 10; what++) {
            due(count(what), 0);
        }
        for (int state = 0; state <= 4; state++) {
            due(count(20 + state), 0);
        }
        due(missed(0), NONE);
        due(syllables(0), NONE);
        due(scholar(0, true), NONE);
        due(company(1, 1), 0);
        due(scholar(0, true), 0);
        due(newWord("a"), 0);
        due(verse(0, 0), 0);
    }

    @Promise(of = 1, says = "nothing in FORCE")
    void newWithNothingInForce() {
        verse(0, 0);
        for (int day : new int[] {0, 1, LAST_DAY}) {
            due(asks(0, day, 0), 50);
            due(asks(0, day, 1), 50);
            due(asks(0, day, 2), 0);
        }
        due(holds(0, 0, 0, 0), NONE);
        due(law("s"), 0);
    }

    @Promise(of = 1, says = "no VERSES: nothing is FIXED, missed, unlike, open, or to be told")
    void newWithNothingToTell() {
        due(fixed(0), NONE);
        due(fixedOn(0, 0), NONE);
        due(look(0, 0), NONE);
        due(breaches(0), NONE);
        due(breach(0, 0, 0), NONE);
        due(quarrel(0, 0, 0), NONE);
        due(unlike(0, 0), NONE);
        due(line(0), NONE);
        due(printed(0, 0, 0), NONE);
        due(changes(0, 0, 0), NONE);
        due(token(0, 0, 0), NONE);
        due(differ(0, 0, 0), NONE);
        due(asks(0, 0, 0), NONE);
        due(close(0), NONE);
        due(voids(0), NONE);
        due(vote(0, 0, true), false);
        due(one(), 0);
        due(cost(0), 0);
        due(plan(NONE), 0);
        due(judge(0), 0);
        due(check(0), NONE);
    }

    @Promise(of = 1, says = "All memory is the committee's own")
    void newBesideAnother() {
        office();
        verse(7, 40);
        tokens(0, 0, 4, 8);
        fix(0, 0, 0);
        option(1, 0);
        apart(1, 2);
        reads(0, 0, 0, false);
        reads(1, 0, 0, false);
        centre(9);
        now(7);
        lay(1);
        fresh();
        newWithoutAnything();
        due(count(0), 0);
        due(count(7), 0);
        due(fixed(0), NONE);
        due(missed(0), 0);
        due(token(0, 0, 0), NONE);
        due(apart(1, 2), true);
        due(option(1, 0), true);
        due(plan(NONE), NONE);
        due(asks(0, 0, 0), 50);
    }

    @Promise(of = 1, says = "NONE = -1")
    void noneIsMinusOne() {
        due(VerseCommittee.NONE, -1);
    }

    // ------------------------------------------------------------------ promise 2: now

    @Promise(of = 2, says = "0 at first: NOW may be told again")
    void nowTheSameDay() {
        due(now(0), true);
        due(now(1), true);
        due(now(1), true);
        due(count(0), 1);
    }

    @Promise(of = 2, says = "to 3999")
    void nowTheLastDay() {
        due(now(LAST_DAY), true);
        due(count(0), LAST_DAY);
        due(now(LAST_DAY), true);
    }

    @Promise(of = 2, says = "no such one: 4000 and what is beyond")
    void nowBeyondTheLastDay() {
        due(now(4000), false);
        due(now(MOST), false);
        due(count(0), 0);
        now(LAST_DAY);
        due(now(4000), false);
        due(count(0), LAST_DAY);
    }

    @Promise(of = 2, says = "no such one: below 0")
    void nowBelowZero() {
        due(now(-1), false);
        due(now(LEAST), false);
        due(count(0), 0);
    }

    @Promise(of = 2, says = "it is past; never back")
    void nowNeverBack() {
        now(6);
        due(now(5), false);
        due(now(0), false);
        due(count(0), 6);
        now(LAST_DAY);
        due(now(LAST_DAY - 1), false);
        due(count(0), LAST_DAY);
    }

    // ------------------------------------------------------------------ promise 3: feed

    @Promise(of = 3, says = "the highest of each int first")
    void feedHighestFirst() {
        verse(0, 0);
        due(feed(0x00010203, 0x04050607, 0, 0, 0), 20);
        due(source(0, 0, 8), true);
        for (int i = 0; i < 8; i++) {
            due(token(0, 0, i), i);
        }
    }

    @Promise(of = 3, says = "Twenty bytes, of five ints in their order")
    void feedTwentyInOrder() {
        // a b c d e f g h i j k l, then what is no letter: a WORD of just these twelve
        due(feed(0x61626364, 0x65666768, 0x696a6b6c, 0x31323334, 0x35363738), 20);
        due(word(12), 0);
        due(newWord("abcdefghijkl"), NONE);
        // s(v=0&b=0&m=0&n=000)
        verse(0, 0);
        due(feed(0x7328763d, 0x3026623d, 0x30266d3d, 0x30266e3d, 0x30303029), 40);
        check(0);
        due(feed(0x7328763d, 0x3026623d, 0x30266d3d, 0x30266e3d, 0x30303029), 20);
        due(rules(NONE, 0, 0, 20), 0);
        due(holds(0, 0, 0, 0), 1);
    }

    @Promise(of = 3, says = "bytes above 127 stay what they are")
    void feedHighBytes() {
        verse(0, 0);
        feed(0x80ff9f00, 0, 0, 0, 0);
        due(source(0, 0, 1), true);
        due(token(0, 0, 0), 128);
        feed(0x9f80ffff, -1, -1, -1, -1);
        due(source(0, 0, 2), true);
        due(token(0, 0, 0), 159);
        due(token(0, 0, 1), 128);
        feed(-1, -1, -1, -1, -1);
        due(source(0, 0, 1), false);
        feed(LEAST, LEAST, LEAST, LEAST, LEAST);
        due(count(7), 40);
    }

    @Promise(of = 3, says = "come behind the tape")
    void feedBehind() {
        verse(0, 0);
        String text = "s(v=0&b=0&m=0&n=0&c<0&d=0&v<1&b<1&m<1);w0.0=0";
        lay(text);
        due(count(7), 60);
        due(rules(NONE, 0, 0, text.length()), 0);
        due(holds(0, 0, 0, 0), 1);
    }

    @Promise(of = 3, says = "how many it has")
    void feedTellsHowMany() {
        for (int n = 20; n <= 200; n += 20) {
            due(feed(n, 0, 0, 0, 0), n);
            due(count(7), n);
        }
    }

    @Promise(of = 3, says = "NONE if that would be more than 200")
    void feedMoreThanTwoHundred() {
        String text = "s(" + times(38, "v=0&") + "n=0)";
        due(text.length(), 158);
        verse(0, 0);
        lay(text);
        feed(0, 0, 0, 0, 0);
        due(feed(0, 0, 0, 0, 0), 200);
        due(feed(-1, -1, -1, -1, -1), NONE);
        due(feed(0, 0, 0, 0, 0), NONE);
        due(count(7), 200);
        due(rules(NONE, 0, 0, 158), 0);
        due(holds(0, 0, 0, 0), 1);
    }

    @Promise(of = 3, says = "behind a tape that was used up there is room for 200 again")
    void feedAfterEmpty() {
        for (int n = 20; n <= 200; n += 20) {
            feed(0, 0, 0, 0, 0);
        }
        due(check(0), NONE);
        for (int n = 20; n <= 200; n += 20) {
            due(feed(0, 0, 0, 0, 0), n);
        }
        due(feed(0, 0, 0, 0, 0), NONE);
    }

    // ------------------------------------------------------------------ promise 4: verse

    @Promise(of = 4, says = "a BOOK (0 to 7)")
    void verseOfEachBook() {
        for (int book = 0; book < 8; book++) {
            due(verse(book, 0), book);
        }
        law("s(b=v)");
        for (int v = 0; v < 8; v++) {
            due(holds(0, 0, v, 0), 1);
        }
    }

    @Promise(of = 4, says = "no such BOOK")
    void verseOfNoBook() {
        due(verse(8, 0), NONE);
        due(verse(-1, 0), NONE);
        due(verse(MOST, 0), NONE);
        due(verse(LEAST, 0), NONE);
        due(count(1), 0);
    }

    @Promise(of = 4, says = "a MEASURE (0: none; to 40)")
    void verseOfEachMeasure() {
        due(verse(0, 0), 0);
        due(verse(0, 1), 1);
        due(verse(0, 40), 2);
        law("s(m=v*v*10|m=v)");
        for (int v = 0; v < 3; v++) {
            due(holds(0, 0, v, 0), 1);
        }
    }

    @Promise(of = 4, says = "no such MEASURE")
    void verseOfNoMeasure() {
        due(verse(0, 41), NONE);
        due(verse(0, -1), NONE);
        due(verse(0, MOST), NONE);
        due(verse(0, LEAST), NONE);
        due(count(1), 0);
    }

    @Promise(of = 4, says = "its number; 60 are there")
    void verseSixty() {
        for (int v = 0; v < 60; v++) {
            due(verse(v % 8, v % 41), v);
        }
        due(verse(0, 0), NONE);
        due(verse(7, 40), NONE);
        due(count(1), 60);
    }

    @Promise(of = 4, says = "VERSES 0 to 59: the last one is one")
    void verseTheLast() {
        for (int v = 0; v < 59; v++) {
            verse(0, 0);
        }
        due(missed(59), NONE);
        due(tokens(59, 0, 4), false);
        due(verse(3, 5), 59);
        due(missed(59), 0);
        due(missed(60), NONE);
        office();
        due(tokens(59, 2, 4, 159), true);
        due(tokens(60, 2, 4, 159), false);
        due(token(59, 2, 1), 159);
        due(token(58, 2, 1), NONE);
        due(slots(0, 59, 2, 0), 0);
        due(close(0), 1);
        due(close(0), 2);
        due(fixed(59), 0);
        due(fixedOn(59, 0), 0);
        due(fixed(58), NONE);
        due(print(0, 59), "sky");
        due(line(0), 0);
        due(reads(9, 59, 7, false), true);
        due(reads(8, 59, 7, false), true);
        due(missed(59), 128);
        due(asks(59, 0, 4), 2);
        due(changes(59, 0, 0), 0);
    }

    @Promise(of = 4, says = "a refused one takes no number")
    void verseRefusedTakesNoNumber() {
        due(verse(0, 0), 0);
        due(verse(8, 0), NONE);
        due(verse(0, 41), NONE);
        due(verse(0, 0), 1);
    }

    // ------------------------------------------------------------------ promise 5: source

    @Promise(of = 5, says = "COPIES 0 to 2")
    void sourceOfEachCopy() {
        verse(0, 0);
        for (int c = 0; c < 3; c++) {
            due(tokens(0, c, 4 * c), true);
        }
        for (int c = 0; c < 3; c++) {
            due(token(0, c, 0), 4 * c);
        }
        due(tokens(0, 3, 4), false);
        due(tokens(0, -1, 4), false);
        due(tokens(0, MOST, 4), false);
        due(tokens(0, LEAST, 4), false);
    }

    @Promise(of = 5, says = "of VERSE v: no such ones")
    void sourceOfNoVerse() {
        due(tokens(0, 0, 4), false);
        verse(0, 0);
        due(tokens(1, 0, 4), false);
        due(tokens(-1, 0, 4), false);
        due(tokens(MOST, 0, 4), false);
        due(tokens(LEAST, 0, 4), false);
        due(tokens(0, 0, 4), true);
    }

    @Promise(of = 5, says = "the first n bytes of the tape (1 to 8)")
    void sourceOfOneToEight() {
        verse(0, 0);
        lay(0, 1, 2, 3, 4, 5, 6, 7, 8);
        due(source(0, 0, 0), false);
        due(source(0, 0, 9), false);
        due(source(0, 0, -1), false);
        due(source(0, 0, MOST), false);
        due(source(0, 0, LEAST), false);
        due(count(7), 20);
        due(source(0, 0, 8), true);
        due(token(0, 0, 7), 7);
        due(token(0, 0, 8), NONE);
        due(tokens(0, 0, 9), true);
        due(token(0, 0, 0), 9);
        due(token(0, 0, 1), NONE);
    }

    @Promise(of = 5, says = "a SIGN (0 to 39) and a FORM (0 to 3)")
    void sourceOfTheLastToken() {
        verse(0, 0);
        due(tokens(0, 0, 0, 3, 156, 159), true);
        due(token(0, 0, 0), 0);
        due(token(0, 0, 1), 3);
        due(token(0, 0, 2), 156);
        due(token(0, 0, 3), 159);
    }

    @Promise(of = 5, says = "no TOKEN")
    void sourceOfNoToken() {
        verse(0, 0);
        tokens(0, 0, 8);
        due(tokens(0, 0, 160), false);
        due(tokens(0, 0, 255), false);
        due(tokens(0, 0, 4, 160, 4), false);
        due(tokens(0, 0, 4, 4, 4, 4, 4, 4, 4, 160), false);
        due(count(7), 20);
        due(token(0, 0, 0), 8);
        due(token(0, 0, 1), NONE);
        due(source(0, 0, 7), true);
        due(token(0, 0, 6), 4);
    }

    @Promise(of = 5, says = "it has not so many (the tape stays)")
    void sourceOfTooFew() {
        verse(0, 0);
        due(source(0, 0, 1), false);
        due(source(0, 0, 8), false);
        due(token(0, 0, 0), NONE);
        tokens(0, 0, 4, 8);
        due(source(0, 0, 1), false);
        due(token(0, 0, 1), 8);
    }

    @Promise(of = 5, says = "empty then")
    void sourceEmptiesAll() {
        verse(0, 0);
        for (int n = 0; n < 10; n++) {
            feed(0, 0, 0, 0, 0);
        }
        due(source(0, 0, 1), true);
        due(count(7), 0);
        due(source(0, 1, 1), false);
    }

    @Promise(of = 5, says = "from now on")
    void sourceFromNowOn() {
        verse(0, 0);
        verse(0, 0);
        tokens(0, 0, 1, 2, 3);
        tokens(0, 1, 4, 5);
        tokens(1, 0, 6);
        due(tokens(0, 0, 9, 8), true);
        due(token(0, 0, 0), 9);
        due(token(0, 0, 1), 8);
        due(token(0, 0, 2), NONE);
        due(token(0, 1, 1), 5);
        due(token(1, 0, 0), 6);
        due(asks(0, 0, 4), 2);
    }

    @Promise(of = 5, says = "(RENDERINGS stay)")
    void sourceLeavesRenderings() {
        office();
        verse(0, 0);
        tokens(0, 0, 4, 8, 12);
        fix(0, 1, 1);
        law("w1.0=1");
        due(look(0, 6), 5);
        due(breaches(0), 1);
        tokens(0, 0, 12);
        due(look(0, 6), 5);
        due(look(0, 4), 0);
        due(breaches(0), 1);
        due(breach(0, 0, 2), 0);
        due(fixed(0), 0);
        option(2, 0);
        due(cost(0), 1);
    }

    // ------------------------------------------------------------------ promise 6: word

    @Promise(of = 6, says = "one to twelve small letters: a and z are ones")
    void wordOfEachLetter() {
        due(newWord("a"), 0);
        due(newWord("z"), 1);
        due(newWord("abcdefghijkl"), 2);
        due(newWord("mnopqrstuvwx"), 3);
        due(newWord("yz"), 4);
    }

    @Promise(of = 6, says = "other signs")
    void wordOfOtherSigns() {
        for (int sign : new int[] {0, 32, 39, 48, 57, 64, 65, 90, 91, 96, 123, 127, 128, 97 + 128, 122 + 128, 255}) {
            lay('b', sign);
            due(word(2), NONE);
            due(count(7), 20);
            lay(sign, 'b');
            due(word(2), NONE);
            due(word(1), NONE);
        }
        lay('b', 'c', 'd', 'e', 'f', 'g', 'h', 'i', 'j', 'k', 'l', '{');
        due(word(12), NONE);
        due(count(2), 0);
        due(word(11), 0);
    }

    @Promise(of = 6, says = "the first n bytes of the tape (1 to 12)")
    void wordOfOneToTwelve() {
        lay("abcdefghijklm");
        due(word(13), NONE);
        due(word(0), NONE);
        due(word(-1), NONE);
        due(word(MOST), NONE);
        due(word(LEAST), NONE);
        due(count(7), 20);
        due(word(12), 0);
        lay("a");
        due(word(1), 1);
        due(count(2), 2);
    }

    @Promise(of = 6, says = "such a one is there")
    void wordThatIsThere() {
        due(newWord("god"), 0);
        due(newWord("god"), NONE);
        due(count(7), 20);
        due(word(2), 1);
        due(newWord("gods"), 2);
        due(newWord("dog"), 3);
        due(newWord("g"), 4);
        due(newWord("goe"), 5);
        due(newWord("aod"), 6);
        due(newWord("gods"), NONE);
        due(newWord("aod"), NONE);
        due(count(2), 7);
    }

    @Promise(of = 6, says = "such a one is there: by its own letters, not by those of EDITIONS")
    void wordThatAnEditionSpells() {
        newWord("god");
        due(respell(0, 0, "gott"), true);
        due(newWord("god"), NONE);
        due(newWord("gott"), 1);
        due(respell(3, 1, "god"), true);
        due(newWord("gott"), NONE);
    }

    @Promise(of = 6, says = "80 are: WORDS 0 to 79")
    void wordEighty() {
        for (int w = 0; w < 80; w++) {
            due(syllables(w), NONE);
            due(newWord("b" + (char) ('a' + w / 26) + (char) ('a' + w % 26)), w);
        }
        due(newWord("zz"), NONE);
        due(count(7), 20);
        due(newWord("baa"), NONE);
        due(count(2), 80);
        due(syllables(79), 1);
        due(syllables(80), NONE);
        due(option(39, 79), true);
        due(option(39, 80), false);
        due(respell(3, 79, "y"), true);
        due(respell(3, 80, "y"), false);
    }

    @Promise(of = 6, says = "it has not so many (the tape stays)")
    void wordOfTooFew() {
        due(word(1), NONE);
        due(word(12), NONE);
        due(count(2), 0);
        newWord("ab");
        due(word(1), NONE);
        due(count(2), 1);
    }

    @Promise(of = 6, says = "empty then")
    void wordEmptiesAll() {
        lay("abcdefghijklmnopqrstuvwxyz");
        due(word(3), 0);
        due(count(7), 0);
        due(word(3), NONE);
    }

    // ------------------------------------------------------------------ promise 7: spell

    @Promise(of = 7, says = "EDITIONS 0 to 3")
    void spellInEachEdition() {
        office();
        verse(0, 0);
        tokens(0, 0, 4);
        fix(0, 0, 0);
        String[] letters = {"a", "bb", "ccc", "dddd"};
        for (int e = 0; e < 4; e++) {
            due(print(e, 0), "in");
            due(respell(e, 0, letters[e]), true);
        }
        for (int e = 0; e < 4; e++) {
            due(print(e, 0), letters[e]);
        }
        due(respell(4, 0, "e"), false);
        due(respell(-1, 0, "e"), false);
        due(respell(MOST, 0, "e"), false);
        due(respell(LEAST, 0, "e"), false);
        due(print(3, 0), "dddd");
    }

    @Promise(of = 7, says = "WORD w: no such ones")
    void spellOfNoWord() {
        due(respell(0, 0, "e"), false);
        newWord("a");
        due(respell(0, 1, "e"), false);
        due(respell(0, -1, "e"), false);
        due(respell(0, MOST, "e"), false);
        due(respell(0, LEAST, "e"), false);
        due(count(7), 20);
        due(respell(0, 0, "e"), true);
        due(count(7), 0);
    }

    @Promise(of = 7, says = "the first n bytes of the tape (1 to 12)")
    void spellOfOneToTwelve() {
        office();
        verse(0, 0);
        tokens(0, 0, 4);
        fix(0, 0, 0);
        lay("abcdefghijklm");
        due(spell(0, 0, 0), false);
        due(spell(0, 0, 13), false);
        due(spell(0, 0, -1), false);
        due(spell(0, 0, MOST), false);
        due(spell(0, 0, LEAST), false);
        due(count(7), 20);
        due(print(0, 0), "in");
        due(spell(0, 0, 12), true);
        due(print(0, 0), "abcdefghijkl");
        due(respell(0, 0, "z"), true);
        due(print(0, 0), "z");
    }

    @Promise(of = 7, says = "other signs (the tape stays)")
    void spellOfOtherSigns() {
        office();
        verse(0, 0);
        tokens(0, 0, 4);
        fix(0, 0, 0);
        for (int sign : new int[] {0, 32, 64, 65, 90, 96, 123, 97 + 128, 255}) {
            lay('b', sign);
            due(spell(0, 0, 2), false);
            lay(sign, 'b');
            due(spell(0, 0, 1), false);
            due(count(7), 20);
        }
        due(print(0, 0), "in");
    }

    @Promise(of = 7, says = "it has not so many (the tape stays)")
    void spellOfTooFew() {
        newWord("a");
        due(spell(0, 0, 1), false);
        due(spell(0, 0, 12), false);
        due(respell(0, 0, "b"), true);
        due(spell(0, 0, 1), false);
    }

    @Promise(of = 7, says = "empty then")
    void spellEmptiesAll() {
        newWord("a");
        lay("abcdefghijklmnopqrstuvwxyz");
        due(spell(0, 0, 2), true);
        due(count(7), 0);
    }

    @Promise(of = 7, says = "is spelled in an EDITION: in this one alone, and what it had there is gone")
    void spellInOneEditionAlone() {
        office();
        verse(0, 0);
        tokens(0, 0, 4);
        fix(0, 0, 0, 1, 0);
        respell(1, 0, "heavenlyones");
        respell(1, 0, "sky");
        due(print(1, 0), "sky god");
        due(print(0, 0), "in god");
        due(print(2, 0), "in god");
        due(syllables(0), 1);
        due(respell(1, 0, "in"), true);
        due(print(1, 0), "in god");
    }

    // ------------------------------------------------------------------ promise 8: syllables

    @Promise(of = 8, says = "how many rows of a e i o u y stand in it")
    void syllablesOfEachLetter() {
        String vowels = "aeiouy";
        for (int i = 0; i < 26; i++) {
            char c = (char) ('a' + i);
            int w = newWord("a" + c + "a");
            due(syllables(w), vowels.indexOf(c) < 0 ? 2 : 1);
        }
        for (int i = 0; i < 6; i++) {
            int w = newWord("b" + vowels.charAt(i) + "b" + vowels.charAt(i));
            due(syllables(w), 2);
        }
    }

    @Promise(of = 8, says = "as long as they go")
    void syllablesOfLongRows() {
        due(syllables(newWord("aeiouyaeiouy")), 1);
        due(syllables(newWord("aeiouybaeiou")), 2);
        due(syllables(newWord("abababababab")), 6);
        due(syllables(newWord("babababababa")), 6);
        due(syllables(newWord("aabbaabbaabb")), 3);
    }

    @Promise(of = 8, says = "at least 1")
    void syllablesAtLeastOne() {
        due(syllables(newWord("b")), 1);
        due(syllables(newWord("bcdfghjklmnp")), 1);
        due(syllables(newWord("a")), 1);
        due(syllables(newWord("ab")), 1);
        due(syllables(newWord("ba")), 1);
    }

    @Promise(of = 8, says = "by its own letters")
    void syllablesByItsOwnLetters() {
        newWord("god");
        for (int e = 0; e < 4; e++) {
            respell(e, 0, "godogodo");
        }
        due(syllables(0), 1);
        newWord("abababababab");
        for (int e = 0; e < 4; e++) {
            respell(e, 1, "o");
        }
        due(syllables(1), 6);
    }

    @Promise(of = 8, says = "NONE: no such one")
    void syllablesOfNoWord() {
        due(syllables(0), NONE);
        newWord("god");
        due(syllables(0), 1);
        due(syllables(1), NONE);
        due(syllables(-1), NONE);
        due(syllables(MOST), NONE);
        due(syllables(LEAST), NONE);
    }

    // ------------------------------------------------------------------ promise 9: company

    @Promise(of = 9, says = "BOOKS (bits, 0 to 255)")
    void companyOfBooks() {
        due(company(256, 0), NONE);
        due(company(-1, 0), NONE);
        due(company(MOST, 0), NONE);
        due(company(LEAST, 0), NONE);
        due(count(3), 0);
        due(company(0, 0), 0);
        due(company(255, 0), 1);
    }

    @Promise(of = 9, says = "a RATE (0 to 99)")
    void companyOfRates() {
        due(company(1, 100), NONE);
        due(company(1, -1), NONE);
        due(company(1, MOST), NONE);
        due(company(1, LEAST), NONE);
        due(count(3), 0);
        due(company(1, 0), 0);
        due(company(1, 99), 1);
    }

    @Promise(of = 9, says = "6 are there: COMPANIES 0 to 5")
    void companySix() {
        for (int c = 0; c < 6; c++) {
            due(scholar(c, true), NONE);
            due(company(1 << c, 1), c);
        }
        due(company(1, 1), NONE);
        due(count(3), 6);
        due(scholar(5, true), 0);
        due(scholar(6, true), NONE);
        due(law(5, 0, 0, "v0.7"), 0);
        due(law(6, 0, 0, "v0.7"), NONE);
        verse(5, 0);
        verse(6, 0);
        due(asks(0, 0, 5), 5);
        due(asks(0, 0, 0), 7);
        due(asks(1, 0, 5), NONE);
    }

    @Promise(of = 9, says = "THE COMPANY of a VERSE is the lowest one that has its BOOK; none if there is none")
    void companyTheLowest() {
        for (int book = 0; book < 8; book++) {
            verse(book, 0);
            due(asks(book, 0, 5), NONE);
        }
        company(0, 1);
        company(128 + 1, 0);
        company(128 + 2, 1);
        int[] want = {1, 2, NONE, NONE, NONE, NONE, NONE, 1};
        for (int v = 0; v < 8; v++) {
            due(asks(v, 0, 5), want[v]);
        }
        company(255, 1);
        due(asks(7, 0, 5), 1);
        due(asks(1, 0, 5), 2);
        due(asks(6, 0, 5), 3);
    }

    @Promise(of = 9, says = "a refused one takes no number")
    void companyRefusedTakesNoNumber() {
        due(company(1, 100), NONE);
        due(company(256, 1), NONE);
        due(company(1, 1), 0);
    }

    // ------------------------------------------------------------------ promise 10: centre

    @Promise(of = 10, says = "0 at first")
    void centreAtFirst() {
        company(1, 1);
        verse(0, 0);
        due(plan(NONE), NONE);
        due(judge(0), NONE);
        due(centre(0), true);
        due(plan(NONE), NONE);
        due(centre(1), true);
        due(plan(NONE), 1);
    }

    @Promise(of = 10, says = "RATE (0 to 99): no such one")
    void centreRates() {
        company(1, 99);
        for (int v = 0; v < 60; v++) {
            verse(0, 0);
        }
        due(centre(99), true);
        due(plan(NONE), 1);
        due(centre(1), true);
        due(plan(NONE), 60);
        due(centre(-1), false);
        due(centre(100), false);
        due(centre(MOST), false);
        due(centre(LEAST), false);
        due(plan(NONE), 60);
        due(centre(0), true);
        due(plan(NONE), NONE);
    }

    // ------------------------------------------------------------------ promise 11: scholar

    @Promise(of = 11, says = "no such COMPANY")
    void scholarOfNoCompany() {
        due(scholar(0, false), NONE);
        company(1, 1);
        due(scholar(1, false), NONE);
        due(scholar(-1, false), NONE);
        due(scholar(MOST, true), NONE);
        due(scholar(LEAST, true), NONE);
        due(count(4), 0);
        due(scholar(0, false), 0);
    }

    @Promise(of = 11, says = "24 are there: SCHOLARS 0 to 23")
    void scholarTwentyFour() {
        newWord("in");
        company(1, 1);
        company(2, 1);
        for (int s = 0; s < 24; s++) {
            due(scholar(s == 23 ? 1 : 0, s == 23), s);
        }
        due(scholar(0, true), NONE);
        due(count(4), 24);
        verse(1, 0);
        tokens(0, 0, 4);
        due(slots(24, 0, 0, 0), NONE);
        due(slots(23, 0, 0, 0), 0);
        due(vote(24, 0, true), false);
        due(vote(22, 0, true), false);
        due(vote(23, 0, true), true);
        due(close(0), 1);
        due(vote(23, 0, true), true);
        due(close(0), 2);
        due(voids(24), NONE);
        due(voids(23), 1);
        due(look(0, 2), 0);
    }

    @Promise(of = 11, says = "some are of the CENTRE, too")
    void scholarOfTheCentreToo() {
        newWord("in");
        company(1, 1);
        scholar(0, false);
        scholar(0, true);
        verse(0, 0);
        tokens(0, 0, 4);
        slots(0, 0, 0, 0);
        due(vote(0, 0, true), true);
        due(vote(1, 0, true), true);
        due(close(0), 1);
        due(vote(0, 0, true), false);
        due(vote(1, 0, true), true);
    }

    // ------------------------------------------------------------------ promise 15: token

    @Promise(of = 15, says = "TOKEN i of COPY c, from the first to the last")
    void tokenFirstToLast() {
        verse(0, 0);
        tokens(0, 1, 159, 1, 2, 3, 4, 5, 6, 0);
        due(token(0, 1, 0), 159);
        due(token(0, 1, 7), 0);
        due(token(0, 1, 8), NONE);
        due(token(0, 1, -1), NONE);
        due(token(0, 1, MOST), NONE);
        due(token(0, 1, LEAST), NONE);
    }

    @Promise(of = 15, says = "NONE: there is none such: a COPY that has nothing")
    void tokenOfNothing() {
        verse(0, 0);
        verse(0, 0);
        tokens(0, 1, 4, 8);
        due(token(0, 0, 0), NONE);
        due(token(0, 2, 0), NONE);
        due(token(1, 1, 0), NONE);
        due(token(0, 1, 2), NONE);
    }

    @Promise(of = 15, says = "NONE: there is none such: no such VERSE, COPY")
    void tokenOfNoVerse() {
        verse(0, 0);
        verse(0, 0);
        for (int c = 0; c < 3; c++) {
            tokens(0, c, 4);
            tokens(1, c, 4);
        }
        for (int odd : new int[] {-1, -3, LEAST, MOST}) {
            due(token(odd, 0, 0), NONE);
            due(token(0, odd, 0), NONE);
            due(token(1, odd, 0), NONE);
        }
        due(token(2, 0, 0), NONE);
        due(token(0, 3, 0), NONE);
        due(token(1, 3, 0), NONE);
    }

    // ------------------------------------------------------------------ promise 16: differ

    @Promise(of = 16, says = "the fewest TOKENS put in, left out, or put for another one")
    void differEachWay() {
        verse(0, 0);
        tokens(0, 0, 1, 2, 3);
        int[][] rows = {{1, 2, 3}, {1, 2}, {1, 2, 3, 4}, {1, 9, 3}, {2, 3}, {9, 1, 2, 3}, {3, 2, 1}, {2, 1, 3}, {9}, {2}, {3, 1, 2}};
        int[] want = {0, 1, 1, 1, 1, 1, 2, 2, 3, 2, 2};
        for (int i = 0; i < rows.length; i++) {
            tokens(0, 1, rows[i]);
            due(differ(0, 0, 1), want[i]);
            due(differ(0, 1, 0), want[i]);
        }
    }

    @Promise(of = 16, says = "rows of one to eight: the least and the greatest there is")
    void differLeastAndGreatest() {
        verse(0, 0);
        tokens(0, 0, 1, 2, 3, 4, 5, 6, 7, 8);
        tokens(0, 1, 11, 12, 13, 14, 15, 16, 17, 18);
        tokens(0, 2, 8);
        due(differ(0, 0, 1), 8);
        due(differ(0, 0, 2), 7);
        due(differ(0, 2, 0), 7);
        due(differ(0, 1, 2), 8);
        due(differ(0, 2, 1), 8);
        due(differ(0, 0, 0), 0);
        due(differ(0, 2, 2), 0);
    }

    @Promise(of = 16, says = "a FORM that is unlike is another TOKEN")
    void differByForm() {
        verse(0, 0);
        tokens(0, 0, 4, 5);
        tokens(0, 1, 4, 6);
        due(differ(0, 0, 1), 1);
    }

    @Promise(of = 16, says = "NONE: one has nothing")
    void differOfNothing() {
        verse(0, 0);
        due(differ(0, 0, 1), NONE);
        due(differ(0, 0, 0), NONE);
        tokens(0, 1, 4);
        due(differ(0, 0, 1), NONE);
        due(differ(0, 1, 0), NONE);
        due(differ(0, 1, 2), NONE);
        due(differ(0, 2, 2), NONE);
        due(differ(0, 1, 1), 0);
    }

    @Promise(of = 16, says = "NONE: no such ones")
    void differOfNoSuchOnes() {
        verse(0, 0);
        verse(0, 0);
        for (int c = 0; c < 3; c++) {
            tokens(0, c, 4);
            tokens(1, c, 4);
        }
        for (int odd : new int[] {-1, 3, LEAST, MOST}) {
            due(differ(0, odd, 1), NONE);
            due(differ(0, 1, odd), NONE);
            due(differ(1, odd, 1), NONE);
            due(differ(1, 1, odd), NONE);
            due(differ(odd, 0, 1), NONE);
        }
        due(differ(2, 0, 1), NONE);
        due(differ(1, 0, 1), 0);
    }
}
