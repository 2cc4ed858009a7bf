/**
 * A committee that turns an old book into one tongue. What each call answers stands in the
 * project's document, promise by promise; README.md tells how the parts here hang together.
 */
public final class VerseCommittee {
    public static final int NONE = -1;

    private static final int LAST_DAY = 3999;
    private static final int TAPE_BYTES = 200;
    private static final int FEED_BYTES = 20;
    private static final int MOST_VERSES = 60;
    private static final int MOST_LETTERS = 12;
    private static final int MOST_SLOTS = 12;
    private static final int MOST_TOKENS = 8;
    private static final int TEXT_BYTES = 160;
    private static final int EDITIONS = 4;
    private static final int SIGNS = 40;
    private static final int ADDED = 8;
    private static final int NOT_SO = -2;
    private static final int HELD = 1;
    private static final int FAR = 2147483647;

    private static final int PROPOSED = 0;
    private static final int PASSED = 1;
    private static final int FIXED = 2;
    private static final int DROPPED = 3;
    private static final int REPLACED = 4;

    private static final int[] NOTHING = {};

    private final int[] tape = new int[TAPE_BYTES];
    private final int[] scratch = new int[MOST_SLOTS + 1];
    private final Words words = new Words();
    private final Verses verses = new Verses();
    private final People people = new People();
    private final Laws laws = new Laws();
    private final Shelf shelf = new Shelf();
    private final Parser parser;
    private final Reckoner reckoner;
    private final Findings findings;
    private final Choices choices;
    private final Planner planner;
    private int taped;
    private int today;

    public VerseCommittee() {
        parser = new Parser(laws);
        reckoner = new Reckoner(laws, verses, people);
        findings = new Findings(laws, verses, reckoner, shelf);
        choices = new Choices(laws, verses, reckoner, shelf);
        planner = new Planner(verses, people, shelf);
    }

    public boolean now(int day) {
        if (!isDay(day) || day < today) {
            return false;
        }
        today = day;
        return true;
    }

    public int feed(int a, int b, int c, int d, int e) {
        if (taped + FEED_BYTES > TAPE_BYTES) {
            return NONE;
        }
        putFour(a);
        putFour(b);
        putFour(c);
        putFour(d);
        putFour(e);
        return taped;
    }

    public int verse(int book, int measure) {
        if (book < 0 || book > 7 || measure < 0 || measure > 40) {
            return NONE;
        }
        return verses.enter(book, measure);
    }

    public boolean source(int v, int c, int n) {
        if (!verses.has(v) || !isCopy(c) || !tapeHas(n, MOST_TOKENS) || !tapeHasTokens(n)) {
            return false;
        }
        verses.putRow(v, c, tape, n);
        taped = 0;
        return true;
    }

    public int word(int n) {
        if (!tapeHas(n, MOST_LETTERS) || !tapeHasLetters(n)) {
            return NONE;
        }
        int w = words.enter(tape, n);
        if (w != NONE) {
            taped = 0;
        }
        return w;
    }

    public boolean spell(int edition, int w, int n) {
        if (!isEdition(edition) || !words.has(w)) {
            return false;
        }
        if (!tapeHas(n, MOST_LETTERS) || !tapeHasLetters(n)) {
            return false;
        }
        words.respell(edition, w, tape, n);
        taped = 0;
        return true;
    }

    public int syllables(int w) {
        return words.has(w) ? words.vowelRows(w) : NONE;
    }

    public int company(int books, int rate) {
        if (books < 0 || books > 255 || !isRate(rate)) {
            return NONE;
        }
        return people.enterCompany(books, rate);
    }

    public boolean centre(int rate) {
        if (!isRate(rate)) {
            return false;
        }
        people.setCentreRate(rate);
        return true;
    }

    public int scholar(int company, boolean centre) {
        return people.hasCompany(company) ? people.enterScholar(company, centre) : NONE;
    }

    public int rules(int company, int from, int to, int n) {
        if (company != NONE && !people.hasCompany(company)) {
            return NONE;
        }
        if (!isDay(from) || !isDay(to) || to < from) {
            return NONE;
        }
        if (laws.isFull() || !tapeHas(n, TEXT_BYTES)) {
            return NONE;
        }
        int fault = parser.read(tape, n);
        taped = 0;
        if (fault != 0) {
            return fault;
        }
        laws.putDays(company, from, to);
        return laws.enact(tape, n, parser.clausesRead());
    }

    public int holds(int i, int j, int v, int day) {
        if (!laws.hasClause(i, j) || !verses.has(v) || !isDay(day)) {
            return NONE;
        }
        reckoner.aim(v, day);
        return reckoner.verdict(Laws.clauseOf(i, j));
    }

    public int asks(int v, int day, int what) {
        if (!verses.has(v) || !isDay(day)) {
            return NONE;
        }
        reckoner.aim(v, day);
        switch (what) {
            case 0:
            case 1:
                return reckoner.hundredths(what);
            case 2:
                return reckoner.restDays();
            case 3:
                return reckoner.firstCopy();
            case 4:
                return reckoner.sourceSize();
            case 5:
                return reckoner.companyThere();
            default:
                return NONE;
        }
    }

    public int token(int v, int c, int i) {
        if (!verses.has(v) || !isCopy(c)) {
            return NONE;
        }
        int[] row = verses.rowOf(v, c);
        return i >= 0 && i < row.length ? row[i] : NONE;
    }

    public int differ(int v, int a, int b) {
        if (!verses.has(v) || !isCopy(a) || !isCopy(b)) {
            return NONE;
        }
        int[] one = verses.rowOf(v, a);
        int[] other = verses.rowOf(v, b);
        if (one.length == 0 || other.length == 0) {
            return NONE;
        }
        return distance(one, other);
    }

    public int render(int s, int v, int n) {
        if (!people.hasScholar(s) || people.isVoid(s) || !verses.has(v) || shelf.isFull()) {
            return NONE;
        }
        if (n < 1 || n > MOST_SLOTS || 2 * n > taped) {
            return NONE;
        }
        reckoner.aim(v, today);
        int[] tokens = verses.rowOf(v, reckoner.firstCopy());
        if (tokens.length == 0 || !tapeHasSlots(n, tokens.length)) {
            return NONE;
        }
        Rendering made = new Rendering(s, v, reckoner.firstCopy(), tokens, today);
        made.fill(tape, n);
        taped = 0;
        return shelf.enter(made);
    }

    public boolean vote(int s, int r, boolean yes) {
        Rendering x = shelf.at(r);
        if (x == null || !x.isUnderVote() || !people.hasScholar(s)) {
            return false;
        }
        if ((votersOf(x) & (1 << s)) == 0) {
            return false;
        }
        x.putVote(s, yes);
        return true;
    }

    public int close(int r) {
        Rendering x = shelf.at(r);
        if (x == null || !x.isUnderVote()) {
            return NONE;
        }
        int voters = votersOf(x);
        if (voters == 0) {
            return NONE;
        }
        reckoner.aim(x.verseNumber(), today);
        int needed = reckoner.hundredths(x.stage());
        boolean on = x.wouldGoOn(voters, needed);
        boolean fixes = on && x.stage() == 1;
        if (fixes && !shelf.mayBeFixed(x.verseNumber(), reckoner.restDays(), today)) {
            return NONE;
        }
        x.keepVote(voters, needed);
        if (fixes) {
            shelf.fix(r, x, today);
        } else {
            x.enterState(on ? PASSED : DROPPED);
        }
        return x.stateNumber();
    }

    public int voids(int s) {
        if (!people.hasScholar(s) || people.isVoid(s)) {
            return NONE;
        }
        people.makeVoid(s);
        return shelf.withdraw(s, today);
    }

    public int fixed(int v) {
        return shelf.fixedNumber(v);
    }

    public int fixedOn(int v, int day) {
        return isPastDay(day) ? shelf.fixedThen(v, day) : NONE;
    }

    public int breaches(int r) {
        Rendering x = shelf.at(r);
        if (x == null) {
            return NONE;
        }
        findings.seekBreach(x, today, NONE);
        return findings.seen();
    }

    public int breach(int r, int i, int what) {
        Rendering x = shelf.at(r);
        if (x == null || i < 0 || what < 0 || what > 2) {
            return NONE;
        }
        return findings.seekBreach(x, today, i) ? findings.told(what) : NONE;
    }

    public int quarrel(int v, int i, int what) {
        if (!verses.has(v) || i < 0 || what < 0 || what > 4) {
            return NONE;
        }
        return findings.seekQuarrel(v, today, i) ? findings.told(what) : NONE;
    }

    public int unlike(int i, int what) {
        if (i < 0 || what < 0 || what > 3) {
            return NONE;
        }
        return findings.seekUnlike(today, i) ? findings.told(what) : NONE;
    }

    public boolean option(int sign, int w) {
        return isSign(sign) && words.has(w) && choices.enter(sign, w);
    }

    public boolean apart(int a, int b) {
        return isSign(a) && isSign(b) && a != b && choices.part(a, b);
    }

    public int cost(int choice) {
        if (!choices.readRow(choice)) {
            return NONE;
        }
        choices.reckon(today);
        return choices.priceOfRow();
    }

    public int one() {
        choices.reckon(today);
        return choices.leastPriced();
    }

    public int line(int i) {
        int ahead = 0;
        for (int v = 0; v < verses.size(); v++) {
            Rendering x = shelf.fixedAt(v);
            if (x == null || !breaksMeasure(x, verses.measureOf(v))) {
                continue;
            }
            if (ahead == i) {
                return shelf.fixedNumber(v);
            }
            ahead++;
        }
        return NONE;
    }

    public boolean reads(int k, int v, int token, boolean right) {
        if (k < 0 || k > 9 || !verses.has(v) || token < 0 || token >= MOST_TOKENS) {
            return false;
        }
        verses.recordReader(k, v, token, right);
        return true;
    }

    public int missed(int v) {
        return verses.has(v) ? verses.missedBits(v) : NONE;
    }

    public int changes(int v, int a, int b) {
        if (!verses.has(v) || !isPastDay(a) || !isPastDay(b)) {
            return NONE;
        }
        return distance(wordsFixedThen(v, a), wordsFixedThen(v, b));
    }

    public int printed(int edition, int v, int i) {
        Rendering x = shelf.fixedAt(v);
        if (x == null || !isEdition(edition) || i < 0) {
            return NONE;
        }
        int place = i;
        for (int slot = 0; slot < x.slots(); slot++) {
            if (slot > 0) {
                if (place == 0) {
                    return ' ';
                }
                place--;
            }
            boolean added = x.turnAt(slot) == ADDED;
            int size = words.sizeIn(edition, x.wordAt(slot)) + (added ? 2 : 0);
            if (place < size) {
                return added ? signOfAdded(edition, x.wordAt(slot), place)
                        : words.letterIn(edition, x.wordAt(slot), place);
            }
            place -= size;
        }
        return NONE;
    }

    public int plan(int i) {
        return planner.answer(i);
    }

    public int judge(int row) {
        return planner.daysOf(row);
    }

    public int check(int n) {
        if (n < 0 || n > MOST_VERSES || 2 * n > taped) {
            return NOT_SO;
        }
        taped = 0;
        return firstWrongByte(2 * n);
    }

    public int look(int r, int what) {
        Rendering x = shelf.at(r);
        return x == null ? NONE : x.tell(what);
    }

    public int count(int what) {
        switch (what) {
            case 0:
                return today;
            case 1:
                return verses.size();
            case 2:
                return words.size();
            case 3:
                return people.companies();
            case 4:
                return people.scholars();
            case 5:
                return laws.size();
            case 6:
                return shelf.size();
            case 7:
                return taped;
            case 8:
                return choices.size();
            case 9:
                return shelf.fixedVerses();
            case 10:
                findings.seekUnlike(today, NONE);
                return findings.seen();
            default:
                return what >= 20 && what <= 24 ? shelf.inState(what - 20) : NONE;
        }
    }

    private void putFour(int four) {
        for (int shift = 24; shift >= 0; shift -= 8) {
            if (taped < TAPE_BYTES) {
                tape[taped] = (four >>> shift) & 255;
                taped++;
            }
        }
    }

    private static boolean isDay(int day) {
        return day >= 0 && day <= LAST_DAY;
    }

    private boolean isPastDay(int day) {
        return day >= 0 && day <= today;
    }

    private static boolean isCopy(int c) {
        return c >= 0 && c <= 2;
    }

    private static boolean isEdition(int edition) {
        return edition >= 0 && edition < EDITIONS;
    }

    private static boolean isRate(int rate) {
        return rate >= 0 && rate <= 99;
    }

    private static boolean isSign(int sign) {
        return sign >= 0 && sign < SIGNS;
    }

    private boolean tapeHas(int n, int most) {
        return n >= 1 && n <= most && n <= taped;
    }

    private boolean tapeHasTokens(int n) {
        for (int i = 0; i < n; i++) {
            if (tape[i] >= 4 * SIGNS) {
                return false;
            }
        }
        return true;
    }

    private boolean tapeHasLetters(int n) {
        for (int i = 0; i < n; i++) {
            if (tape[i] < 'a' || tape[i] > 'z') {
                return false;
            }
        }
        return true;
    }

    private boolean tapeHasSlots(int n, int tokens) {
        for (int i = 0; i < n; i++) {
            int turn = tape[2 * i + 1];
            if (!words.has(tape[2 * i]) || (turn != ADDED && turn >= tokens)) {
                return false;
            }
        }
        return true;
    }

    private int votersOf(Rendering x) {
        int book = verses.bookOf(x.verseNumber());
        return people.voters(x.stage(), people.companyOf(book));
    }

    private boolean breaksMeasure(Rendering x, int measure) {
        if (measure == 0) {
            return false;
        }
        int sum = 0;
        for (int slot = 0; slot < x.slots(); slot++) {
            sum += words.vowelRows(x.wordAt(slot));
        }
        return sum != measure;
    }

    private int[] wordsFixedThen(int v, int day) {
        Rendering x = shelf.at(shelf.fixedThen(v, day));
        return x == null ? NOTHING : x.wordRow();
    }

    private int signOfAdded(int edition, int w, int place) {
        if (place == 0) {
            return '[';
        }
        int size = words.sizeIn(edition, w);
        return place > size ? ']' : words.letterIn(edition, w, place - 1);
    }

    private int firstWrongByte(int size) {
        int place = 0;
        for (int v = 0; v < verses.size(); v++) {
            int r = shelf.fixedNumber(v);
            if (r == NONE) {
                continue;
            }
            if (place + 1 >= size) {
                return size;
            }
            if (tape[place] != v) {
                return place;
            }
            if (tape[place + 1] != r) {
                return place + 1;
            }
            place += 2;
        }
        return place < size ? place : NONE;
    }

    /** The fewest items put in, left out, or put for another one; one row is used again for all. */
    private int distance(int[] from, int[] to) {
        int[] row = scratch;
        if (to.length >= row.length) {
            return NONE;
        }
        for (int j = 0; j <= to.length; j++) {
            row[j] = j;
        }
        for (int i = 0; i < from.length; i++) {
            int corner = row[0];
            row[0] = i + 1;
            for (int j = 0; j < to.length; j++) {
                int put = corner + (from[i] == to[j] ? 0 : 1);
                corner = row[j + 1];
                row[j + 1] = Math.min(put, 1 + Math.min(row[j], corner));
            }
        }
        return row[to.length];
    }

    /** WORDS with their own letters and those of each EDITION. */
    private static final class Words {
        private static final int MOST = 80;
        private static final int FORMS = EDITIONS + 1;

        private final byte[] letters = new byte[MOST * FORMS * MOST_LETTERS];
        private final byte[] sizes = new byte[MOST * FORMS];
        private int size;

        int size() {
            return size;
        }

        boolean has(int w) {
            return w >= 0 && w < size;
        }

        int enter(int[] text, int n) {
            if (size >= MOST || isThere(text, n)) {
                return NONE;
            }
            put(size * FORMS, text, n);
            size++;
            return size - 1;
        }

        void respell(int edition, int w, int[] text, int n) {
            if (has(w) && isEdition(edition)) {
                put(w * FORMS + 1 + edition, text, n);
            }
        }

        int sizeIn(int edition, int w) {
            return has(w) && isEdition(edition) ? sizes[formIn(edition, w)] : 0;
        }

        int letterIn(int edition, int w, int i) {
            if (i < 0 || i >= sizeIn(edition, w)) {
                return NONE;
            }
            return letters[formIn(edition, w) * MOST_LETTERS + i];
        }

        int vowelRows(int w) {
            if (!has(w)) {
                return 0;
            }
            int form = w * FORMS;
            int rows = 0;
            boolean inside = false;
            for (int i = 0; i < sizes[form]; i++) {
                boolean vowel = isVowel(letters[form * MOST_LETTERS + i]);
                if (vowel && !inside) {
                    rows++;
                }
                inside = vowel;
            }
            return Math.max(1, rows);
        }

        private static boolean isVowel(int c) {
            return c == 'a' || c == 'e' || c == 'i' || c == 'o' || c == 'u' || c == 'y';
        }

        // A WORD that an EDITION does not spell otherwise has no letters of its own there.
        private int formIn(int edition, int w) {
            int form = w * FORMS + 1 + edition;
            return sizes[form] == 0 ? w * FORMS : form;
        }

        private void put(int form, int[] text, int n) {
            for (int i = 0; i < n && i < MOST_LETTERS; i++) {
                letters[form * MOST_LETTERS + i] = (byte) text[i];
            }
            sizes[form] = (byte) Math.min(n, MOST_LETTERS);
        }

        private boolean isThere(int[] text, int n) {
            for (int w = 0; w < size; w++) {
                if (isSpelledSo(w * FORMS, text, n)) {
                    return true;
                }
            }
            return false;
        }

        private boolean isSpelledSo(int form, int[] text, int n) {
            if (sizes[form] != n) {
                return false;
            }
            for (int i = 0; i < n; i++) {
                if (letters[form * MOST_LETTERS + i] != text[i]) {
                    return false;
                }
            }
            return true;
        }
    }

    /** VERSES with the rows that the COPIES have of them, and what READERS told of them. */
    private static final class Verses {
        private static final int COPIES = 3;

        private final int[] books = new int[MOST_VERSES];
        private final int[] measures = new int[MOST_VERSES];
        private final int[][] rows = new int[MOST_VERSES * COPIES][];
        private final int[] told = new int[MOST_VERSES * MOST_TOKENS];
        private final int[] wrong = new int[MOST_VERSES * MOST_TOKENS];
        private int size;

        int size() {
            return size;
        }

        boolean has(int v) {
            return v >= 0 && v < size;
        }

        int enter(int book, int measure) {
            if (size >= MOST_VERSES) {
                return NONE;
            }
            books[size] = book;
            measures[size] = measure;
            size++;
            return size - 1;
        }

        int bookOf(int v) {
            return has(v) ? books[v] : NONE;
        }

        int measureOf(int v) {
            return has(v) ? measures[v] : 0;
        }

        // A new row each time: RENDERINGS go on with the row on which they rest.
        void putRow(int v, int c, int[] text, int n) {
            if (!has(v) || !isCopy(c) || n < 0 || n > text.length) {
                return;
            }
            int[] row = new int[n];
            for (int i = 0; i < n; i++) {
                row[i] = text[i];
            }
            rows[v * COPIES + c] = row;
        }

        int[] rowOf(int v, int c) {
            if (!has(v) || !isCopy(c)) {
                return NOTHING;
            }
            int[] row = rows[v * COPIES + c];
            return row == null ? NOTHING : row;
        }

        void recordReader(int k, int v, int token, boolean right) {
            if (!has(v) || token < 0 || token >= MOST_TOKENS) {
                return;
            }
            int place = v * MOST_TOKENS + token;
            told[place] |= 1 << k;
            if (right) {
                wrong[place] &= ~(1 << k);
            } else {
                wrong[place] |= 1 << k;
            }
        }

        int missedBits(int v) {
            int bits = 0;
            for (int token = 0; has(v) && token < MOST_TOKENS; token++) {
                int place = v * MOST_TOKENS + token;
                int against = Integer.bitCount(wrong[place]);
                if (against >= 2 && 2 * against > Integer.bitCount(told[place])) {
                    bits |= 1 << token;
                }
            }
            return bits;
        }
    }

    /** COMPANIES, the CENTRE and SCHOLARS; sets of SCHOLARS are bits. */
    private static final class People {
        private static final int MOST_COMPANIES = 6;
        private static final int MOST_SCHOLARS = 24;

        private final int[] books = new int[MOST_COMPANIES];
        private final int[] rates = new int[MOST_COMPANIES];
        private final int[] members = new int[MOST_COMPANIES];
        private int centreMembers;
        private int centreRate;
        private int companies;
        private int scholars;
        private int voided;

        int companies() {
            return companies;
        }

        int scholars() {
            return scholars;
        }

        boolean hasCompany(int c) {
            return c >= 0 && c < companies;
        }

        boolean hasScholar(int s) {
            return s >= 0 && s < scholars;
        }

        int enterCompany(int bits, int rate) {
            if (companies >= MOST_COMPANIES) {
                return NONE;
            }
            books[companies] = bits;
            rates[companies] = rate;
            companies++;
            return companies - 1;
        }

        int enterScholar(int c, boolean centre) {
            if (scholars >= MOST_SCHOLARS || !hasCompany(c)) {
                return NONE;
            }
            int bit = 1 << scholars;
            members[c] |= bit;
            if (centre) {
                centreMembers |= bit;
            }
            scholars++;
            return scholars - 1;
        }

        void setCentreRate(int rate) {
            centreRate = rate;
        }

        int centreRate() {
            return centreRate;
        }

        boolean isVoid(int s) {
            return (voided & (1 << s)) != 0;
        }

        void makeVoid(int s) {
            voided |= 1 << s;
        }

        boolean hasBook(int c, int book) {
            return hasCompany(c) && (books[c] & (1 << book)) != 0;
        }

        int rateOf(int c) {
            return hasCompany(c) ? rates[c] : 0;
        }

        int companyOf(int book) {
            for (int c = 0; c < companies; c++) {
                if (hasBook(c, book)) {
                    return c;
                }
            }
            return NONE;
        }

        int voters(int stage, int c) {
            if (stage == 1) {
                return centreMembers & ~voided;
            }
            return hasCompany(c) ? members[c] & ~voided : 0;
        }
    }

    /** RULES and their CLAUSES; a CLAUSE is told by one number, 16 for each of the RULES. */
    private static final class Laws {
        private static final int MOST = 20;
        private static final int CLAUSES = 16;
        private static final int ALL_FORMS = 4;

        private final int[][] texts = new int[MOST][];
        private final int[] companies = new int[MOST];
        private final int[] firstDays = new int[MOST];
        private final int[] lastDays = new int[MOST];
        private final int[] clauses = new int[MOST];
        private final int[] kinds = new int[MOST * CLAUSES];
        private final int[] subjects = new int[MOST * CLAUSES];
        private final int[] forms = new int[MOST * CLAUSES];
        private final int[] values = new int[MOST * CLAUSES];
        private final int[] starts = new int[MOST * CLAUSES];
        private int size;

        int size() {
            return size;
        }

        boolean isFull() {
            return size >= MOST;
        }

        static int clauseOf(int i, int j) {
            return i * CLAUSES + j;
        }

        static int rulesOf(int clause) {
            return clause / CLAUSES;
        }

        static int placeOf(int clause) {
            return clause % CLAUSES;
        }

        int clausesOf(int i) {
            return i >= 0 && i < size ? clauses[i] : 0;
        }

        boolean hasClause(int i, int j) {
            return j >= 0 && j < clausesOf(i);
        }

        // CLAUSES are put down while a text is read; they are nothing before enact() counts them.
        void putClause(int j, int kind, int start) {
            if (isFull() || j < 0 || j >= CLAUSES) {
                return;
            }
            int clause = clauseOf(size, j);
            kinds[clause] = kind;
            starts[clause] = start;
        }

        void putMeaning(int j, int subject, int form, int value) {
            if (isFull() || j < 0 || j >= CLAUSES) {
                return;
            }
            int clause = clauseOf(size, j);
            subjects[clause] = subject;
            forms[clause] = form;
            values[clause] = value;
        }

        void putDays(int company, int from, int to) {
            if (!isFull()) {
                companies[size] = company;
                firstDays[size] = from;
                lastDays[size] = to;
            }
        }

        int enact(int[] text, int n, int clauseCount) {
            if (isFull() || n < 0 || n > text.length) {
                return NONE;
            }
            int[] own = new int[n];
            for (int i = 0; i < n; i++) {
                own[i] = text[i];
            }
            texts[size] = own;
            clauses[size] = clauseCount;
            size++;
            return size - 1;
        }

        boolean binds(int i, int company, int day) {
            if (i < 0 || i >= size || day < firstDays[i] || day > lastDays[i]) {
                return false;
            }
            return companies[i] == NONE || companies[i] == company;
        }

        int[] textOf(int i) {
            int[] text = i >= 0 && i < size ? texts[i] : null;
            return text == null ? NOTHING : text;
        }

        private static boolean isNumber(int clause) {
            return clause >= 0 && clause < MOST * CLAUSES;
        }

        boolean isOf(int clause, int kind) {
            return isNumber(clause) && kinds[clause] == kind;
        }

        int subject(int clause) {
            return isNumber(clause) ? subjects[clause] : NONE;
        }

        int value(int clause) {
            return isNumber(clause) ? values[clause] : NONE;
        }

        int start(int clause) {
            return isNumber(clause) ? starts[clause] : NONE;
        }

        boolean speaksOf(int clause, int token) {
            if (!isNumber(clause) || token / 4 != subjects[clause]) {
                return false;
            }
            return forms[clause] == ALL_FORMS || forms[clause] == token % 4;
        }

        boolean speaksOfAny(int clause, int[] tokens) {
            for (int p = 0; p < tokens.length; p++) {
                if (speaksOf(clause, tokens[p])) {
                    return true;
                }
            }
            return false;
        }
    }

    /** Reads a text of RULES from the left and stops at its first FAULT. */
    private static final class Parser {
        private static final int END = -1;
        private static final int DIGITS = 5;
        private static final int ANY_NUMBER = 99999;
        private static final int MOST_OPEN = 6;

        private static final int STRANGE = 1;
        private static final int SIXTH_DIGIT = 2;
        private static final int NO_SUCH_NUMBER = 3;
        private static final int SEVENTEENTH = 4;
        private static final int TOO_DEEP = 5;
        private static final int DIGIT_AGAIN = 6;

        private final Laws laws;
        private int[] text = NOTHING;
        private int size;
        private int at;
        private int fault;
        private int faultPlace;
        private int clausesRead;

        Parser(Laws laws) {
            this.laws = laws;
        }

        int clausesRead() {
            return clausesRead;
        }

        /** 0 for a text without a FAULT, else what rules() answers of it. */
        int read(int[] tape, int n) {
            text = tape;
            size = n;
            at = 0;
            fault = 0;
            clausesRead = 0;
            boolean more = true;
            for (int j = 0; more && j <= Laws.CLAUSES; j++) {
                more = readClause(j) && at < size && pass(';');
            }
            return fault == 0 ? 0 : -1000 * fault - faultPlace;
        }

        private int sign() {
            return at >= 0 && at < size && at < text.length ? text[at] : END;
        }

        private boolean fail(int number, int place) {
            fault = number;
            faultPlace = place;
            return false;
        }

        private boolean pass(int wanted) {
            if (sign() != wanted) {
                return fail(STRANGE, at);
            }
            at++;
            return true;
        }

        private static boolean isBetween(int sign, int least, int most) {
            return sign >= least && sign <= most;
        }

        private boolean readClause(int j) {
            int kind = sign();
            if (kind != 'w' && kind != 's' && kind != 'k' && kind != 'v' && kind != 'o') {
                return fail(STRANGE, at);
            }
            if (j >= Laws.CLAUSES) {
                return fail(SEVENTEENTH, at);
            }
            at++;
            laws.putClause(j, kind, NONE);
            laws.putMeaning(j, 0, 0, 0);
            clausesRead = j + 1;
            switch (kind) {
                case 'w':
                    return readTurning(j) && readTail(j, kind);
                case 's':
                    return readTail(j, kind);
                case 'k':
                    return readRanks(j);
                case 'v':
                    return readHundredths(j);
                default:
                    return readRest(j);
            }
        }

        private boolean readTurning(int j) {
            int subject = readNumber(SIGNS - 1);
            if (subject == NONE || !pass('.')) {
                return false;
            }
            if (sign() != '*' && !isBetween(sign(), '0', '3')) {
                return fail(STRANGE, at);
            }
            int form = sign() == '*' ? Laws.ALL_FORMS : sign() - '0';
            at++;
            if (!pass('=')) {
                return false;
            }
            int value = readNumber(Words.MOST - 1);
            laws.putMeaning(j, subject, form, value);
            return value != NONE;
        }

        private boolean readTail(int j, int kind) {
            if (sign() != '(') {
                return true;
            }
            at++;
            laws.putClause(j, kind, at);
            return readCondition(1) && pass(')');
        }

        private boolean readRanks(int j) {
            int seen = 0;
            int ranks = 0;
            for (int k = 0; k < 3; k++) {
                if (!isBetween(sign(), '0', '2')) {
                    return fail(STRANGE, at);
                }
                int copy = sign() - '0';
                if ((seen & (1 << copy)) != 0) {
                    return fail(DIGIT_AGAIN, at);
                }
                seen |= 1 << copy;
                ranks = ranks * 4 + copy;
                at++;
            }
            laws.putMeaning(j, 0, 0, ranks);
            return true;
        }

        private boolean readHundredths(int j) {
            if (!isBetween(sign(), '0', '1')) {
                return fail(STRANGE, at);
            }
            int stage = sign() - '0';
            at++;
            if (!pass('.')) {
                return false;
            }
            int value = readNumber(100);
            laws.putMeaning(j, stage, 0, value);
            return value != NONE;
        }

        private boolean readRest(int j) {
            int value = readNumber(ANY_NUMBER);
            laws.putMeaning(j, 0, 0, value);
            return value != NONE;
        }

        private int readNumber(int most) {
            int first = at;
            int value = 0;
            for (int k = 0; k < DIGITS && isBetween(sign(), '0', '9'); k++) {
                value = value * 10 + sign() - '0';
                at++;
            }
            boolean good = true;
            if (at == first) {
                good = fail(STRANGE, at);
            } else if (isBetween(sign(), '0', '9')) {
                good = fail(SIXTH_DIGIT, at);
            } else if (value > most) {
                good = fail(NO_SUCH_NUMBER, first);
            }
            return good ? value : NONE;
        }

        /** C; open tells how many of ( [ ! are open around it. */
        private boolean readCondition(int open) {
            boolean good = readPart(open);
            for (int k = 0; good && k < TEXT_BYTES && sign() == '|'; k++) {
                at++;
                good = readPart(open);
            }
            return good;
        }

        private boolean readPart(int open) {
            boolean good = readPiece(open);
            for (int k = 0; good && k < TEXT_BYTES && sign() == '&'; k++) {
                at++;
                good = readPiece(open);
            }
            return good;
        }

        private boolean readPiece(int open) {
            int first = sign();
            if (first == '!') {
                return readOpening(open) && readPiece(open + 1);
            }
            if (first == '(') {
                return readOpening(open) && readCondition(open + 1) && pass(')');
            }
            return readSum(open) && readComparison() && readSum(open);
        }

        private boolean readOpening(int open) {
            if (open >= MOST_OPEN) {
                return fail(TOO_DEEP, at);
            }
            at++;
            return true;
        }

        private boolean readComparison() {
            if (sign() != '<' && sign() != '>' && sign() != '=') {
                return fail(STRANGE, at);
            }
            at++;
            return true;
        }

        private boolean readSum(int open) {
            boolean good = readTerm(open);
            for (int k = 0; good && k < TEXT_BYTES && (sign() == '+' || sign() == '-'); k++) {
                at++;
                good = readTerm(open);
            }
            return good;
        }

        private boolean readTerm(int open) {
            boolean good = readFactor(open);
            for (int k = 0; good && k < TEXT_BYTES && isTermSign(); k++) {
                at++;
                good = readFactor(open);
            }
            return good;
        }

        private boolean isTermSign() {
            return sign() == '*' || sign() == '/' || sign() == '%';
        }

        private boolean readFactor(int open) {
            if (sign() == '[') {
                return readOpening(open) && readSum(open + 1) && pass(']');
            }
            if (isBetween(sign(), '0', '9')) {
                return readNumber(ANY_NUMBER) != NONE;
            }
            switch (sign()) {
                case 'v':
                case 'b':
                case 'm':
                case 'n':
                case 'c':
                case 'd':
                    at++;
                    return true;
                default:
                    return fail(STRANGE, at);
            }
        }
    }

    /** What RULES ask of the VERSE and the DAY at which it is aimed. */
    private static final class Reckoner {
        private static final int REFUSED = 2;
        private static final int HALF = 50;
        private static final int MOST_OPEN = 6;

        private final Laws laws;
        private final Verses verses;
        private final People people;
        private int verse;
        private int day;
        private int company;
        private int force;
        private int copy;
        private int tokens;
        private int book;
        private int measure;
        private int[] text = NOTHING;
        private int at;
        private boolean refused;

        Reckoner(Laws laws, Verses verses, People people) {
            this.laws = laws;
            this.verses = verses;
            this.people = people;
        }

        void aim(int v, int onDay) {
            verse = v;
            day = onDay;
            book = verses.bookOf(v);
            measure = verses.measureOf(v);
            company = people.companyOf(book);
            force = 0;
            for (int i = 0; i < laws.size(); i++) {
                if (laws.binds(i, company, day)) {
                    force |= 1 << i;
                }
            }
            findCopy();
        }

        boolean isInForce(int i) {
            return (force & (1 << i)) != 0;
        }

        int companyThere() {
            return company;
        }

        int firstCopy() {
            return copy;
        }

        int sourceSize() {
            return tokens;
        }

        int hundredths(int stage) {
            int clause = lastInForce('v', stage);
            return clause == NONE ? HALF : laws.value(clause);
        }

        int restDays() {
            int clause = lastInForce('o', 0);
            return clause == NONE ? 0 : laws.value(clause);
        }

        int verdict(int clause) {
            int start = laws.start(clause);
            if (start == NONE) {
                return HELD;
            }
            text = laws.textOf(Laws.rulesOf(clause));
            at = start;
            refused = false;
            boolean holds = reckonCondition(true, 1);
            if (refused) {
                return REFUSED;
            }
            return holds ? HELD : 0;
        }

        private void findCopy() {
            int clause = lastInForce('k', 0);
            int ranks = clause == NONE ? 1 * 4 + 2 : laws.value(clause);
            copy = NONE;
            tokens = 0;
            for (int shift = 4; shift >= 0 && copy == NONE; shift -= 2) {
                int c = (ranks >> shift) & 3;
                tokens = verses.rowOf(verse, c).length;
                if (tokens > 0) {
                    copy = c;
                }
            }
        }

        private int lastInForce(int kind, int subject) {
            for (int i = laws.size() - 1; i >= 0; i--) {
                if (!isInForce(i)) {
                    continue;
                }
                for (int j = laws.clausesOf(i) - 1; j >= 0; j--) {
                    int clause = Laws.clauseOf(i, j);
                    if (laws.isOf(clause, kind) && laws.subject(clause) == subject) {
                        return clause;
                    }
                }
            }
            return NONE;
        }

        private int sign() {
            return at >= 0 && at < text.length ? text[at] : NONE;
        }

        // What does not matter any more is gone through, too, but not asked: it can't be REFUSED.
        private boolean reckonCondition(boolean asked, int open) {
            boolean holds = reckonPart(asked, open);
            for (int k = 0; k < TEXT_BYTES && sign() == '|'; k++) {
                at++;
                boolean other = reckonPart(asked && !holds, open);
                holds = holds || other;
            }
            return holds;
        }

        private boolean reckonPart(boolean asked, int open) {
            boolean holds = reckonPiece(asked, open);
            for (int k = 0; k < TEXT_BYTES && sign() == '&'; k++) {
                at++;
                boolean other = reckonPiece(asked && holds, open);
                holds = holds && other;
            }
            return holds;
        }

        private boolean reckonPiece(boolean asked, int open) {
            if (open > MOST_OPEN) {
                return false;
            }
            if (sign() == '!') {
                at++;
                return !reckonPiece(asked, open + 1);
            }
            if (sign() == '(') {
                at++;
                boolean holds = reckonCondition(asked, open + 1);
                at++;
                return holds;
            }
            int left = reckonSum(asked, open);
            int comparison = sign();
            at++;
            int right = reckonSum(asked, open);
            if (comparison == '<') {
                return left < right;
            }
            return comparison == '>' ? left > right : left == right;
        }

        private int reckonSum(boolean asked, int open) {
            int value = reckonTerm(asked, open);
            for (int k = 0; k < TEXT_BYTES && (sign() == '+' || sign() == '-'); k++) {
                boolean more = sign() == '+';
                at++;
                int term = reckonTerm(asked, open);
                value = more ? value + term : value - term;
            }
            return value;
        }

        private int reckonTerm(boolean asked, int open) {
            int value = reckonFactor(asked, open);
            for (int k = 0; k < TEXT_BYTES && isTermSign(sign()); k++) {
                int operation = sign();
                at++;
                int factor = reckonFactor(asked, open);
                if (operation == '*') {
                    value *= factor;
                } else if (factor == 0) {
                    refused = refused || asked;
                    value = 0;
                } else {
                    value = operation == '/' ? value / factor : value % factor;
                }
            }
            return value;
        }

        private static boolean isTermSign(int sign) {
            return sign == '*' || sign == '/' || sign == '%';
        }

        private int reckonFactor(boolean asked, int open) {
            if (open > MOST_OPEN) {
                return 0;
            }
            if (sign() == '[') {
                at++;
                int value = reckonSum(asked, open + 1);
                at++;
                return value;
            }
            if (isDigit(sign())) {
                return numberThere();
            }
            int letter = sign();
            at++;
            return letterValue(letter);
        }

        private static boolean isDigit(int sign) {
            return sign >= '0' && sign <= '9';
        }

        private int numberThere() {
            int value = 0;
            for (int k = 0; k < TEXT_BYTES && isDigit(sign()); k++) {
                value = value * 10 + sign() - '0';
                at++;
            }
            return value;
        }

        private int letterValue(int letter) {
            switch (letter) {
                case 'v':
                    return verse;
                case 'b':
                    return book;
                case 'm':
                    return measure;
                case 'n':
                    return tokens;
                case 'c':
                    return company;
                default:
                    return day;
            }
        }
    }

    /** A RENDERING with its SLOTS and the votes of both stages. */
    private static final class Rendering {
        private final int scholar;
        private final int verse;
        private final int copy;
        private final int[] tokens;
        private int[] words = NOTHING;
        private int[] turns = NOTHING;
        private final int madeDay;
        private int state = PROPOSED;
        private int fixedDay = NONE;
        private final int[] cast = new int[2];
        private final int[] yes = new int[2];
        private final int[] keptYes = {NONE, NONE};
        private final int[] keptAll = new int[2];
        private final int[] keptNeed = new int[2];

        Rendering(int scholar, int verse, int copy, int[] tokens, int day) {
            this.scholar = scholar;
            this.verse = verse;
            this.copy = copy;
            this.tokens = tokens;
            madeDay = day;
        }

        void fill(int[] text, int n) {
            if (n < 0 || 2 * n > text.length) {
                return;
            }
            words = new int[n];
            turns = new int[n];
            for (int i = 0; i < n; i++) {
                words[i] = text[2 * i];
                turns[i] = text[2 * i + 1];
            }
        }

        int verseNumber() {
            return verse;
        }

        int stateNumber() {
            return state;
        }

        int[] tokenRow() {
            return tokens;
        }

        int[] wordRow() {
            return words;
        }

        int slots() {
            return words.length;
        }

        int wordAt(int slot) {
            return slot >= 0 && slot < words.length ? words[slot] : NONE;
        }

        int turnAt(int slot) {
            return slot >= 0 && slot < turns.length ? turns[slot] : NONE;
        }

        int daysSinceFixed(int today) {
            return today - fixedDay;
        }

        boolean isUnderVote() {
            return state == PROPOSED || state == PASSED;
        }

        int stage() {
            return state == PROPOSED ? 0 : 1;
        }

        void putVote(int s, boolean forIt) {
            int stage = stage();
            cast[stage] |= 1 << s;
            if (forIt) {
                yes[stage] |= 1 << s;
            } else {
                yes[stage] &= ~(1 << s);
            }
        }

        boolean wouldGoOn(int voters, int needed) {
            int ayes = Integer.bitCount(yes[stage()] & voters);
            return isEnough(ayes, Integer.bitCount(voters), needed);
        }

        void keepVote(int voters, int needed) {
            int stage = stage();
            keptYes[stage] = Integer.bitCount(yes[stage] & voters);
            keptAll[stage] = Integer.bitCount(voters);
            keptNeed[stage] = needed;
        }

        void enterState(int next) {
            state = next;
        }

        void becomeFixed(int day) {
            state = FIXED;
            fixedDay = day;
        }

        /** Takes out the votes of a SCHOLAR; the STATE to which this has to go back, or NONE. */
        int takeOut(int s) {
            if (state != PASSED && state != FIXED) {
                return NONE;
            }
            if (!standsWithout(0, 1 << s)) {
                return PROPOSED;
            }
            return state == FIXED && !standsWithout(1, 1 << s) ? PASSED : NONE;
        }

        void goBack(int earlier) {
            state = earlier;
            fixedDay = NONE;
            keptYes[1] = NONE;
            if (earlier == PROPOSED) {
                keptYes[0] = NONE;
            }
        }

        private boolean standsWithout(int stage, int bit) {
            if ((cast[stage] & bit) == 0) {
                return true;
            }
            keptAll[stage]--;
            if ((yes[stage] & bit) != 0) {
                keptYes[stage]--;
            }
            return keptAll[stage] > 0 && isEnough(keptYes[stage], keptAll[stage], keptNeed[stage]);
        }

        private static boolean isEnough(int ayes, int all, int needed) {
            return 100 * ayes >= needed * all;
        }

        boolean isTurnedByOnly(int token, int w) {
            boolean turned = false;
            for (int i = 0; i < words.length; i++) {
                if (turns[i] != token) {
                    continue;
                }
                if (words[i] != w) {
                    return false;
                }
                turned = true;
            }
            return turned;
        }

        boolean turnsLike(int token, Rendering there, int tokenThere) {
            int next = there.nextSlot(0, tokenThere);
            for (int i = 0; i < words.length; i++) {
                if (turns[i] != token) {
                    continue;
                }
                if (next >= there.slots() || there.wordAt(next) != words[i]) {
                    return false;
                }
                next = there.nextSlot(next + 1, tokenThere);
            }
            return next >= there.slots();
        }

        private int nextSlot(int from, int token) {
            int slot = from;
            while (slot < turns.length && turns[slot] != token) {
                slot++;
            }
            return slot;
        }

        private int leftBits() {
            int bits = (1 << tokens.length) - 1;
            for (int i = 0; i < turns.length; i++) {
                bits &= ~(1 << turns[i]);
            }
            return bits;
        }

        int tell(int what) {
            switch (what) {
                case 0:
                    return scholar;
                case 1:
                    return verse;
                case 2:
                    return state;
                case 3:
                    return madeDay;
                case 4:
                    return copy;
                case 5:
                    return words.length;
                case 6:
                    return leftBits();
                case 7:
                case 8:
                    return keptYes[what - 7];
                case 9:
                    return fixedDay;
                default:
                    return what < 20 ? NONE : tellSlot(what - 20);
            }
        }

        private int tellSlot(int place) {
            return place % 2 == 0 ? wordAt(place / 2) : turnAt(place / 2);
        }
    }

    /** All RENDERINGS, what is FIXED of each VERSE, and how that came about by DAYS. */
    private static final class Shelf {
        private static final int MOST = 200;
        // Each of 512 calls can fix one VERSE, and what is fixed once can become VOID once.
        private static final int MOST_TURNS = 1024;

        private final Rendering[] rows = new Rendering[MOST];
        private final int[] fixedOf = new int[MOST_VERSES];
        private final int[] turnVerse = new int[MOST_TURNS];
        private final int[] turnDay = new int[MOST_TURNS];
        private final int[] turnRendering = new int[MOST_TURNS];
        private int size;
        private int turns;

        Shelf() {
            for (int v = 0; v < MOST_VERSES; v++) {
                fixedOf[v] = NONE;
            }
        }

        int size() {
            return size;
        }

        boolean isFull() {
            return size >= MOST;
        }

        int enter(Rendering x) {
            if (isFull()) {
                return NONE;
            }
            rows[size] = x;
            size++;
            return size - 1;
        }

        Rendering at(int r) {
            return r >= 0 && r < size ? rows[r] : null;
        }

        int fixedNumber(int v) {
            return v >= 0 && v < MOST_VERSES ? fixedOf[v] : NONE;
        }

        Rendering fixedAt(int v) {
            return at(fixedNumber(v));
        }

        int fixedThen(int v, int day) {
            for (int k = turns - 1; k >= 0; k--) {
                if (turnVerse[k] == v && turnDay[k] <= day) {
                    return turnRendering[k];
                }
            }
            return NONE;
        }

        int fixedVerses() {
            int sum = 0;
            for (int v = 0; v < MOST_VERSES; v++) {
                if (fixedOf[v] != NONE) {
                    sum++;
                }
            }
            return sum;
        }

        int inState(int state) {
            int sum = 0;
            for (int r = 0; r < size; r++) {
                Rendering x = rows[r];
                if (x != null && x.stateNumber() == state) {
                    sum++;
                }
            }
            return sum;
        }

        boolean mayBeFixed(int v, int restDays, int today) {
            Rendering old = fixedAt(v);
            return old == null || old.daysSinceFixed(today) > restDays;
        }

        void fix(int r, Rendering x, int today) {
            Rendering old = fixedAt(x.verseNumber());
            if (old != null) {
                old.enterState(REPLACED);
            }
            x.becomeFixed(today);
            setFixed(x.verseNumber(), r, today);
        }

        int withdraw(int s, int today) {
            int back = 0;
            for (int r = 0; r < size; r++) {
                Rendering x = rows[r];
                int earlier = x == null ? NONE : x.takeOut(s);
                if (earlier == NONE) {
                    continue;
                }
                if (x.stateNumber() == FIXED) {
                    setFixed(x.verseNumber(), NONE, today);
                }
                x.goBack(earlier);
                back++;
            }
            return back;
        }

        private void setFixed(int v, int r, int today) {
            if (v < 0 || v >= MOST_VERSES) {
                return;
            }
            fixedOf[v] = r;
            if (turns < MOST_TURNS) {
                turnVerse[turns] = v;
                turnDay[turns] = today;
                turnRendering[turns] = r;
                turns++;
            }
        }
    }

    /** BREACHES, QUARRELS and UNLIKE twos: each is gone through up to the wanted one. */
    private static final class Findings {
        private static final int MOST_CLAUSES = Laws.MOST * Laws.CLAUSES;
        private static final int MOST_PLACES = MOST_VERSES * (MOST_TOKENS - 1);
        private static final int LONGS = MOST_CLAUSES / 64;

        private final Laws laws;
        private final Verses verses;
        private final Reckoner reckoner;
        private final Shelf shelf;
        private final int[] found = new int[5];
        private final int[] held = new int[MOST_CLAUSES];
        private final int[] placeVerse = new int[MOST_PLACES];
        private final int[] placeToken = new int[MOST_PLACES];
        private final int[] placeSigns = new int[MOST_PLACES];
        private final long[] alike = new long[MOST_VERSES * LONGS];
        private int heldSize;
        private int places;
        private int seen;

        Findings(Laws laws, Verses verses, Reckoner reckoner, Shelf shelf) {
            this.laws = laws;
            this.verses = verses;
            this.reckoner = reckoner;
            this.shelf = shelf;
        }

        int seen() {
            return seen;
        }

        int told(int what) {
            return what >= 0 && what < found.length ? found[what] : NONE;
        }

        boolean seekBreach(Rendering x, int today, int wanted) {
            seen = 0;
            int[] tokens = x.tokenRow();
            gatherHeld(x.verseNumber(), today, tokens);
            for (int h = 0; h < heldSize; h++) {
                int clause = held[h];
                for (int p = 0; p < tokens.length; p++) {
                    if (!laws.speaksOf(clause, tokens[p])
                            || x.isTurnedByOnly(p, laws.value(clause))) {
                        continue;
                    }
                    if (seen == wanted) {
                        tellClause(0, clause);
                        found[2] = p;
                        return true;
                    }
                    seen++;
                }
            }
            return false;
        }

        boolean seekQuarrel(int v, int today, int wanted) {
            seen = 0;
            reckoner.aim(v, today);
            int[] tokens = verses.rowOf(v, reckoner.firstCopy());
            gatherHeld(v, today, tokens);
            for (int p = 0; p < tokens.length; p++) {
                for (int h = 0; h < heldSize; h++) {
                    if (laws.speaksOf(held[h], tokens[p]) && seekSecond(h, tokens[p], wanted)) {
                        found[0] = p;
                        return true;
                    }
                }
            }
            return false;
        }

        private boolean seekSecond(int first, int token, int wanted) {
            int asked = laws.value(held[first]);
            for (int h = first + 1; h < heldSize; h++) {
                if (laws.value(held[h]) == asked || !laws.speaksOf(held[h], token)) {
                    continue;
                }
                if (seen == wanted) {
                    tellClause(1, held[first]);
                    tellClause(3, held[h]);
                    return true;
                }
                seen++;
            }
            return false;
        }

        private void tellClause(int what, int clause) {
            found[what] = Laws.rulesOf(clause);
            found[what + 1] = Laws.placeOf(clause);
        }

        // CLAUSES that speak of none of the TOKENS are not reckoned: they can't be found anyhow.
        private void gatherHeld(int v, int today, int[] tokens) {
            reckoner.aim(v, today);
            heldSize = 0;
            for (int i = 0; i < laws.size(); i++) {
                if (!reckoner.isInForce(i)) {
                    continue;
                }
                for (int j = 0; j < laws.clausesOf(i); j++) {
                    int clause = Laws.clauseOf(i, j);
                    if (laws.isOf(clause, 'w') && laws.speaksOfAny(clause, tokens)
                            && reckoner.verdict(clause) == HELD && heldSize < MOST_CLAUSES) {
                        held[heldSize] = clause;
                        heldSize++;
                    }
                }
            }
        }

        boolean seekUnlike(int today, int wanted) {
            seen = 0;
            places = 0;
            for (int v = 0; v < verses.size(); v++) {
                Rendering x = shelf.fixedAt(v);
                if (x != null && markAlike(v, today)) {
                    addPlaces(v, x.tokenRow());
                }
            }
            for (int a = 0; a < places; a++) {
                for (int b = a + 1; b < places; b++) {
                    if (placeSigns[a] != placeSigns[b] || !isUnlike(a, b)) {
                        continue;
                    }
                    if (seen == wanted) {
                        found[0] = placeVerse[a];
                        found[1] = placeToken[a];
                        found[2] = placeVerse[b];
                        found[3] = placeToken[b];
                        return true;
                    }
                    seen++;
                }
            }
            return false;
        }

        private boolean isUnlike(int a, int b) {
            if (!shareClause(placeVerse[a], placeVerse[b])) {
                return false;
            }
            Rendering x = shelf.fixedAt(placeVerse[a]);
            Rendering y = shelf.fixedAt(placeVerse[b]);
            if (x == null || y == null) {
                return false;
            }
            int p = placeToken[a];
            int q = placeToken[b];
            return !x.turnsLike(p, y, q) || !x.turnsLike(p + 1, y, q + 1);
        }

        private boolean shareClause(int v, int w) {
            for (int k = 0; k < LONGS; k++) {
                if ((alike[v * LONGS + k] & alike[w * LONGS + k]) != 0) {
                    return true;
                }
            }
            return false;
        }

        private void addPlaces(int v, int[] tokens) {
            for (int p = 0; p + 1 < tokens.length && places < MOST_PLACES; p++) {
                placeVerse[places] = v;
                placeToken[places] = p;
                placeSigns[places] = tokens[p] * 256 + tokens[p + 1];
                places++;
            }
        }

        /** Marks the s CLAUSES in FORCE that hold for a VERSE; whether there are any. */
        private boolean markAlike(int v, int today) {
            for (int k = 0; k < LONGS; k++) {
                alike[v * LONGS + k] = 0;
            }
            reckoner.aim(v, today);
            boolean any = false;
            for (int i = 0; i < laws.size(); i++) {
                if (!reckoner.isInForce(i)) {
                    continue;
                }
                for (int j = 0; j < laws.clausesOf(i); j++) {
                    int clause = Laws.clauseOf(i, j);
                    if (laws.isOf(clause, 's') && reckoner.verdict(clause) == HELD) {
                        alike[v * LONGS + clause / 64] |= 1L << (clause % 64);
                        any = true;
                    }
                }
            }
            return any;
        }
    }

    /** ONE WORD for each SIGN that has OPTIONS. */
    private static final class Choices {
        private static final int MOST_SIGNS = 6;
        private static final int MOST_OPTIONS = 4;

        private final Laws laws;
        private final Verses verses;
        private final Reckoner reckoner;
        private final Shelf shelf;
        private final int[] signs = new int[MOST_SIGNS];
        private final int[] sizes = new int[MOST_SIGNS];
        private final int[] options = new int[MOST_SIGNS * MOST_OPTIONS];
        private final long[] parted = new long[SIGNS];
        private final int[] prices = new int[MOST_SIGNS * MOST_OPTIONS];
        private final boolean[] barred = new boolean[MOST_SIGNS * MOST_OPTIONS];
        private final int[] row = new int[MOST_SIGNS];
        private int size;
        private int bestPrice;
        private int bestChoice;

        Choices(Laws laws, Verses verses, Reckoner reckoner, Shelf shelf) {
            this.laws = laws;
            this.verses = verses;
            this.reckoner = reckoner;
            this.shelf = shelf;
        }

        int size() {
            return size;
        }

        boolean enter(int sign, int w) {
            int k = placeOf(sign);
            if (k == NONE) {
                if (size >= MOST_SIGNS) {
                    return false;
                }
                k = size;
                signs[k] = sign;
                size++;
            }
            if (sizes[k] >= MOST_OPTIONS || isOption(k, w)) {
                return false;
            }
            options[k * MOST_OPTIONS + sizes[k]] = w;
            sizes[k]++;
            return true;
        }

        boolean part(int a, int b) {
            if (arePart(a, b)) {
                return false;
            }
            parted[a] |= 1L << b;
            parted[b] |= 1L << a;
            return true;
        }

        int priceOfRow() {
            int price = 0;
            for (int k = 0; k < size; k++) {
                if (!mayStand(k)) {
                    return NOT_SO;
                }
                price += prices[k * MOST_OPTIONS + row[k]];
            }
            return price;
        }

        int leastPriced() {
            bestPrice = FAR;
            bestChoice = NONE;
            choose(0, 0);
            return bestChoice;
        }

        private int placeOf(int sign) {
            for (int k = 0; k < size; k++) {
                if (signs[k] == sign) {
                    return k;
                }
            }
            return NONE;
        }

        private boolean isOption(int k, int w) {
            for (int j = 0; j < sizes[k]; j++) {
                if (options[k * MOST_OPTIONS + j] == w) {
                    return true;
                }
            }
            return false;
        }

        private boolean arePart(int a, int b) {
            return (parted[a] & (1L << b)) != 0;
        }

        boolean readRow(int choice) {
            if (choice < 0) {
                return false;
            }
            int rest = choice;
            for (int k = 0; k < size; k++) {
                row[k] = rest % MOST_OPTIONS;
                rest /= MOST_OPTIONS;
                if (row[k] >= sizes[k]) {
                    return false;
                }
            }
            return rest == 0;
        }

        private int choiceOfRow() {
            int choice = 0;
            for (int k = size - 1; k >= 0; k--) {
                choice = choice * MOST_OPTIONS + row[k];
            }
            return choice;
        }

        private int chosen(int k) {
            return options[k * MOST_OPTIONS + row[k]];
        }

        // Asks of the row up to k alone, so that a choice that can't be is left early.
        private boolean mayStand(int k) {
            if (barred[k * MOST_OPTIONS + row[k]]) {
                return false;
            }
            for (int l = 0; l < k; l++) {
                if (arePart(signs[k], signs[l]) && chosen(k) == chosen(l)) {
                    return false;
                }
            }
            return true;
        }

        // Rows are gone through from the least on; so the first one of a price is the one to keep.
        private void choose(int k, int price) {
            if (price >= bestPrice) {
                return;
            }
            if (k >= size) {
                bestPrice = price;
                bestChoice = choiceOfRow();
                return;
            }
            for (int j = 0; j < sizes[k]; j++) {
                chooseOption(k, j, price);
            }
        }

        private void chooseOption(int k, int j, int price) {
            row[k] = j;
            if (mayStand(k)) {
                choose(k + 1, price + prices[k * MOST_OPTIONS + j]);
            }
        }

        void reckon(int today) {
            for (int o = 0; o < prices.length; o++) {
                prices[o] = 0;
                barred[o] = false;
            }
            if (size == 0) {
                return;
            }
            for (int v = 0; v < verses.size(); v++) {
                Rendering x = shelf.fixedAt(v);
                if (x != null) {
                    addPrices(x);
                    barByClauses(v, x.tokenRow(), today);
                }
            }
        }

        private void addPrices(Rendering x) {
            int[] tokens = x.tokenRow();
            for (int slot = 0; slot < x.slots(); slot++) {
                int turn = x.turnAt(slot);
                int k = turn >= 0 && turn < tokens.length ? placeOf(tokens[turn] / 4) : NONE;
                if (k == NONE) {
                    continue;
                }
                for (int j = 0; j < sizes[k]; j++) {
                    if (options[k * MOST_OPTIONS + j] != x.wordAt(slot)) {
                        prices[k * MOST_OPTIONS + j]++;
                    }
                }
            }
        }

        private void barByClauses(int v, int[] tokens, int today) {
            reckoner.aim(v, today);
            for (int i = 0; i < laws.size(); i++) {
                if (!reckoner.isInForce(i)) {
                    continue;
                }
                for (int j = 0; j < laws.clausesOf(i); j++) {
                    int clause = Laws.clauseOf(i, j);
                    int k = laws.isOf(clause, 'w') ? placeOf(laws.subject(clause)) : NONE;
                    if (k != NONE && laws.speaksOfAny(clause, tokens)
                            && reckoner.verdict(clause) == HELD) {
                        barOthers(k, laws.value(clause));
                    }
                }
            }
        }

        private void barOthers(int k, int w) {
            for (int j = 0; j < sizes[k]; j++) {
                if (options[k * MOST_OPTIONS + j] != w) {
                    barred[k * MOST_OPTIONS + j] = true;
                }
            }
        }
    }

    /** THE PLAN for the BOOKS that have VERSES with nothing FIXED. */
    private static final class Planner {
        private static final int BOOKS = 8;
        private static final int MOST = 6;

        private final Verses verses;
        private final People people;
        private final Shelf shelf;
        private final int[] open = new int[BOOKS];
        private final int[] books = new int[MOST];
        private final int[] loads = new int[People.MOST_COMPANIES];
        private final int[] row = new int[MOST];
        private final int[] best = new int[MOST];
        private int size;
        private int bestDays;

        Planner(Verses verses, People people, Shelf shelf) {
            this.verses = verses;
            this.people = people;
            this.shelf = shelf;
        }

        int answer(int i) {
            gatherBooks();
            bestDays = FAR;
            int centreDays = daysOfCentre();
            if (centreDays != NONE) {
                give(0, centreDays);
            }
            if (bestDays == FAR) {
                return NONE;
            }
            if (i == NONE) {
                return bestDays;
            }
            return i >= 0 && i < size ? best[i] : NONE;
        }

        int daysOf(int told) {
            gatherBooks();
            int days = daysOfCentre();
            int rest = told;
            for (int k = 0; k < size; k++) {
                int c = rest % MOST;
                rest /= MOST;
                if (days == NONE || !mayHave(c, books[k])) {
                    return NONE;
                }
                loads[c] += open[books[k]];
                days = Math.max(days, through(loads[c], people.rateOf(c)));
            }
            return rest == 0 ? days : NONE;
        }

        private void gatherBooks() {
            for (int book = 0; book < BOOKS; book++) {
                open[book] = 0;
            }
            for (int v = 0; v < verses.size(); v++) {
                int book = verses.bookOf(v);
                if (book >= 0 && book < BOOKS && shelf.fixedNumber(v) == NONE) {
                    open[book]++;
                }
            }
            size = 0;
            for (int book = 0; book < BOOKS && size < MOST; book++) {
                if (open[book] > 0) {
                    books[size] = book;
                    size++;
                }
            }
            for (int c = 0; c < loads.length; c++) {
                loads[c] = 0;
            }
        }

        private int daysOfCentre() {
            int sum = 0;
            for (int k = 0; k < size; k++) {
                sum += open[books[k]];
            }
            if (sum == 0) {
                return 0;
            }
            return people.centreRate() == 0 ? NONE : through(sum, people.centreRate());
        }

        private static int through(int load, int rate) {
            return rate <= 0 ? 0 : (load + rate - 1) / rate;
        }

        private boolean mayHave(int c, int book) {
            return people.hasBook(c, book) && people.rateOf(c) > 0;
        }

        // Rows are gone through from the least on; so the first one of its DAYS is the one to keep.
        private void give(int k, int days) {
            if (days >= bestDays) {
                return;
            }
            if (k >= size) {
                bestDays = days;
                for (int l = 0; l < size; l++) {
                    best[l] = row[l];
                }
                return;
            }
            for (int c = 0; c < people.companies(); c++) {
                if (mayHave(c, books[k])) {
                    giveTo(k, c, days);
                }
            }
        }

        private void giveTo(int k, int c, int days) {
            row[k] = c;
            loads[c] += open[books[k]];
            give(k + 1, Math.max(days, through(loads[c], people.rateOf(c))));
            loads[c] -= open[books[k]];
        }
    }
}
