import java.lang.annotation.ElementType;
import java.lang.annotation.Retention;
import java.lang.annotation.RetentionPolicy;
import java.lang.annotation.Target;
import java.lang.reflect.Constructor;
import java.lang.reflect.InvocationTargetException;
import java.lang.reflect.Method;
import java.util.ArrayList;
import java.util.Comparator;
import java.util.List;

/**
 * What tests of single sentences have in common: a committee whose calls are counted (the document promises
 * nothing behind the 512th), short words for what is done all the time, and a run of all methods that bear a
 * sentence of the document, each with a committee of its own.
 */
public abstract class Sentences {
    static final int NONE = -1;
    static final int LEAST = Integer.MIN_VALUE;
    static final int MOST = Integer.MAX_VALUE;
    static final int LAST_DAY = 3999;
    static final int LAST_CALL = 512;
    // Neither a TOKEN nor a letter nor a sign of RULES: what stands behind the first n bytes must not matter.
    private static final int STRANGE_BYTE = 255;

    private VerseCommittee x = new VerseCommittee();
    private int calls;
    private int asked;
    private int wrong;

    /** The sentence of the document that a method asks for. */
    @Retention(RetentionPolicy.RUNTIME)
    @Target(ElementType.METHOD)
    @interface Promise {
        int of();

        String says();
    }

    // ------------------------------------------------------------------ running

    static void run(Class<? extends Sentences> tests) {
        List<Method> methods = new ArrayList<>();
        for (Method m : tests.getDeclaredMethods()) {
            if (m.isAnnotationPresent(Promise.class)) {
                methods.add(m);
            }
        }
        methods.sort(Comparator.comparingInt((Method m) -> m.getAnnotation(Promise.class).of())
                .thenComparing(Method::getName));
        int broken = 0;
        int asked = 0;
        for (Method m : methods) {
            Sentences one = runOne(tests, m);
            asked += one.asked;
            if (one.wrong > 0 || one.asked == 0) {
                broken++;
                Promise p = m.getAnnotation(Promise.class);
                System.out.println("broken: promise " + p.of() + ", " + m.getName() + ": " + p.says());
            }
        }
        System.out.println(tests.getName() + ": " + methods.size() + " sentences, " + asked + " asked, " + broken + " broken");
        if (broken > 0 || methods.isEmpty()) {
            System.exit(1);
        }
    }

    private static Sentences runOne(Class<? extends Sentences> tests, Method m) {
        try {
            Constructor<? extends Sentences> maker = tests.getDeclaredConstructor();
            Sentences one = maker.newInstance();
            try {
                m.invoke(one);
            } catch (InvocationTargetException e) {
                one.wrong++;
                System.out.println("  " + m.getName() + " threw " + e.getCause());
                e.getCause().printStackTrace(System.out);
            }
            return one;
        } catch (ReflectiveOperationException e) {
            throw new IllegalStateException(e);
        }
    }

    // ------------------------------------------------------------------ what is due

    void due(long got, long want) {
        asked++;
        if (got != want) {
            tell(String.valueOf(got), String.valueOf(want));
        }
    }

    void due(boolean got, boolean want) {
        asked++;
        if (got != want) {
            tell(String.valueOf(got), String.valueOf(want));
        }
    }

    void due(String got, String want) {
        asked++;
        if (!got.equals(want)) {
            tell(got, want);
        }
    }

    private void tell(String got, String want) {
        wrong++;
        StackTraceElement[] trace = new Throwable().getStackTrace();
        int at = 0;
        while (trace[at].getClassName().equals(Sentences.class.getName())) {
            at++;
        }
        System.out.println("  " + trace[at].getMethodName() + ", line " + trace[at].getLineNumber() + ": " + got
                + ", due is " + want);
    }

    // ------------------------------------------------------------------ the committee, each call of it counted

    void fresh() {
        x = new VerseCommittee();
        calls = 0;
    }

    int callsLeft() {
        return LAST_CALL - calls;
    }

    private VerseCommittee it() {
        calls++;
        if (calls > LAST_CALL) {
            throw new IllegalStateException("behind the 512th call nothing is promised");
        }
        return x;
    }

    boolean now(int day) {
        return it().now(day);
    }

    int feed(int a, int b, int c, int d, int e) {
        return it().feed(a, b, c, d, e);
    }

    int verse(int book, int measure) {
        return it().verse(book, measure);
    }

    boolean source(int v, int c, int n) {
        return it().source(v, c, n);
    }

    int word(int n) {
        return it().word(n);
    }

    boolean spell(int edition, int w, int n) {
        return it().spell(edition, w, n);
    }

    int syllables(int w) {
        return it().syllables(w);
    }

    int company(int books, int rate) {
        return it().company(books, rate);
    }

    boolean centre(int rate) {
        return it().centre(rate);
    }

    int scholar(int company, boolean centre) {
        return it().scholar(company, centre);
    }

    int rules(int company, int from, int to, int n) {
        return it().rules(company, from, to, n);
    }

    int holds(int i, int j, int v, int day) {
        return it().holds(i, j, v, day);
    }

    int asks(int v, int day, int what) {
        return it().asks(v, day, what);
    }

    int token(int v, int c, int i) {
        return it().token(v, c, i);
    }

    int differ(int v, int a, int b) {
        return it().differ(v, a, b);
    }

    int render(int s, int v, int n) {
        return it().render(s, v, n);
    }

    boolean vote(int s, int r, boolean yes) {
        return it().vote(s, r, yes);
    }

    int close(int r) {
        return it().close(r);
    }

    int voids(int s) {
        return it().voids(s);
    }

    int fixed(int v) {
        return it().fixed(v);
    }

    int fixedOn(int v, int day) {
        return it().fixedOn(v, day);
    }

    int breaches(int r) {
        return it().breaches(r);
    }

    int breach(int r, int i, int what) {
        return it().breach(r, i, what);
    }

    int quarrel(int v, int i, int what) {
        return it().quarrel(v, i, what);
    }

    int unlike(int i, int what) {
        return it().unlike(i, what);
    }

    boolean option(int sign, int w) {
        return it().option(sign, w);
    }

    boolean apart(int a, int b) {
        return it().apart(a, b);
    }

    int cost(int choice) {
        return it().cost(choice);
    }

    int one() {
        return it().one();
    }

    int line(int i) {
        return it().line(i);
    }

    boolean reads(int k, int v, int token, boolean right) {
        return it().reads(k, v, token, right);
    }

    int missed(int v) {
        return it().missed(v);
    }

    int changes(int v, int a, int b) {
        return it().changes(v, a, b);
    }

    int printed(int edition, int v, int i) {
        return it().printed(edition, v, i);
    }

    int plan(int i) {
        return it().plan(i);
    }

    int judge(int row) {
        return it().judge(row);
    }

    int check(int n) {
        return it().check(n);
    }

    int look(int r, int what) {
        return it().look(r, what);
    }

    int count(int what) {
        return it().count(what);
    }

    // ------------------------------------------------------------------ short words

    /** These bytes come to the head of the tape; what stood there is used up, what fills the twenty is strange. */
    void lay(int... bytes) {
        for (int i = 0; i < bytes.length; i += 20) {
            if (feedFrom(bytes, i) != i + 20) {
                check(0);
                feedFrom(bytes, i);
            }
        }
    }

    void lay(String text) {
        lay(bytesOf(text));
    }

    private int feedFrom(int[] bytes, int from) {
        int[] five = new int[5];
        for (int k = 0; k < 20; k++) {
            int b = from + k < bytes.length ? bytes[from + k] : STRANGE_BYTE;
            five[k / 4] = five[k / 4] << 8 | b;
        }
        return feed(five[0], five[1], five[2], five[3], five[4]);
    }

    static int[] bytesOf(String text) {
        int[] row = new int[text.length()];
        for (int i = 0; i < row.length; i++) {
            row[i] = text.charAt(i);
        }
        return row;
    }

    static String times(int n, String text) {
        return text.repeat(n);
    }

    int newWord(String letters) {
        lay(letters);
        return word(letters.length());
    }

    void newWords(String... all) {
        for (String s : all) {
            newWord(s);
        }
    }

    boolean respell(int edition, int w, String letters) {
        lay(letters);
        return spell(edition, w, letters.length());
    }

    boolean tokens(int v, int c, int... row) {
        lay(row);
        return source(v, c, row.length);
    }

    int law(String text) {
        return law(NONE, 0, LAST_DAY, text);
    }

    int law(int company, int from, int to, String text) {
        lay(text);
        return rules(company, from, to, text.length());
    }

    /** RULES with one s CLAUSE of this condition; what it answers of VERSE 0 today. */
    int ask(String condition) {
        int i = law("s(" + condition + ")");
        return i < 0 ? i : holds(i, 0, 0, count(0));
    }

    int slots(int s, int v, int... pairs) {
        lay(pairs);
        return render(s, v, pairs.length / 2);
    }

    /** WORDS in, god, sky; a COMPANY of all BOOKS; SCHOLAR 0 of it and of the CENTRE; VOTES that need nothing. */
    void office() {
        newWords("in", "god", "sky");
        company(255, 1);
        scholar(0, true);
        law("v0.0;v1.0");
    }

    /** A RENDERING by SCHOLAR 0 that goes through both stages at once. */
    int fix(int v, int... pairs) {
        int r = slots(0, v, pairs);
        close(r);
        close(r);
        return r;
    }

    String print(int edition, int v) {
        StringBuilder b = new StringBuilder();
        int sign = printed(edition, v, 0);
        while (sign != NONE) {
            b.append((char) sign);
            sign = printed(edition, v, b.length());
        }
        return b.toString();
    }
}
