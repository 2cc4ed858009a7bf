import java.util.Random;

/** Any arguments in any state, far beyond 512 calls: no call throws, none goes on for ever. */
public final class WildCallsTest {
    private final Random dice;
    private final VerseCommittee x = new VerseCommittee();

    private WildCallsTest(int seed) {
        dice = new Random(seed);
    }

    public static void main(String[] args) {
        for (int seed = 0; seed < 60; seed++) {
            WildCallsTest run = new WildCallsTest(seed);
            for (int i = 0; i < 6000; i++) {
                int kind = run.dice.nextInt(48);
                try {
                    run.call(kind);
                } catch (Throwable t) {
                    System.out.println("seed " + seed + ", call " + i + " of kind " + kind + " threw " + t);
                    t.printStackTrace(System.out);
                    System.exit(1);
                }
            }
        }
        System.out.println("wild calls: none threw");
    }

    private int any() {
        switch (dice.nextInt(16)) {
            case 0:
                return dice.nextInt();
            case 1:
                return Integer.MIN_VALUE + dice.nextInt(3);
            case 2:
                return Integer.MAX_VALUE - dice.nextInt(3);
            case 3:
                return dice.nextInt(5000) - 500;
            case 4:
                return 1 << dice.nextInt(32);
            case 5:
                return -1 - dice.nextInt(3);
            case 6, 7:
                return dice.nextInt(200);
            case 8, 9, 10:
                return dice.nextInt(25);
            default:
                return dice.nextInt(5);
        }
    }

    private boolean coin() {
        return dice.nextInt(3) > 0;
    }

    private void feed(String text) {
        for (int i = 0; i < text.length(); i += 20) {
            int[] five = new int[5];
            for (int k = 0; k < 20; k++) {
                five[k / 4] = five[k / 4] << 8 | (i + k < text.length() ? text.charAt(i + k) : dice.nextInt(256));
            }
            x.feed(five[0], five[1], five[2], five[3], five[4]);
        }
    }

    private void law() {
        String[] some = {"s", "w1.*=1", "w0.0=0(1/v=1)", "v0.0;v1.0;o0", "k210;s(!!!!!v=1)", "s((((((v=1))))))", "w2.1=3(n>m|d%c=0)",
            "v0.0;v1.0;s;s(v%2=0)", "w0.*=1;w0.*=2;w1.*=3;w1.*=2(b<3)", "w3.0=2([[[[[v]]]]]/[d*0]=1)", "s(", "w", "s(v=1"};
        StringBuilder text = new StringBuilder(some[dice.nextInt(some.length)]);
        if (dice.nextInt(4) == 0) {
            text.setCharAt(dice.nextInt(text.length()), (char) dice.nextInt(256));
        }
        x.check(0);
        feed(text.toString());
        x.rules(-1, 0, 3999, text.length());
    }

    private void rendering() {
        x.check(0);
        StringBuilder b = new StringBuilder();
        int n = 1 + dice.nextInt(12);
        for (int i = 0; i < n; i++) {
            b.append((char) dice.nextInt(4)).append((char) (dice.nextInt(5) == 0 ? 8 : dice.nextInt(3)));
        }
        feed(b.toString());
        int v = dice.nextInt(4);
        int r = x.render(dice.nextInt(6), v, n);
        x.vote(dice.nextInt(6), r, coin());
        x.close(r);
        x.close(r);
    }

    private void rows() {
        x.check(0);
        feed("\4\5\10\4\5\10\4\4\4\4\4\4\4\4\4\4\4\4\4\4");
        x.source(dice.nextInt(4), dice.nextInt(3), 1 + dice.nextInt(8));
        x.check(0);
        feed("" + (char) ('a' + dice.nextInt(26)) + (char) ('a' + dice.nextInt(26)));
        x.word(2);
    }

    private void call(int kind) {
        switch (kind) {
            case 0 -> x.now(coin() ? x.count(0) + dice.nextInt(2) : any());
            case 1 -> x.feed(any(), any(), any(), any(), any());
            case 2 -> x.verse(any(), any());
            case 3 -> x.source(any(), any(), any());
            case 4 -> x.word(any());
            case 5 -> x.spell(any(), any(), any());
            case 6 -> x.syllables(any());
            case 7 -> x.company(any(), any());
            case 8 -> x.centre(any());
            case 9 -> x.scholar(any(), coin());
            case 10 -> x.rules(any(), any(), any(), any());
            case 11 -> x.holds(any(), any(), any(), any());
            case 12 -> x.asks(any(), any(), any());
            case 13 -> x.token(any(), any(), any());
            case 14 -> x.differ(any(), any(), any());
            case 15 -> x.render(any(), any(), any());
            case 16 -> x.vote(any(), any(), coin());
            case 17 -> x.close(any());
            case 18 -> x.voids(dice.nextInt(20) == 0 ? any() : -1);
            case 19 -> x.fixed(any());
            case 20 -> x.fixedOn(any(), any());
            case 21 -> x.breaches(any());
            case 22 -> x.breach(any(), any(), any());
            case 23 -> x.quarrel(any(), any(), any());
            case 24 -> x.unlike(any(), any());
            case 25 -> x.option(any(), any());
            case 26 -> x.apart(any(), any());
            case 27 -> x.cost(any());
            case 28 -> x.one();
            case 29 -> x.line(any());
            case 30 -> x.reads(any(), any(), any(), coin());
            case 31 -> x.missed(any());
            case 32 -> x.changes(any(), any(), any());
            case 33 -> x.printed(any(), any(), any());
            case 34 -> x.plan(any());
            case 35 -> x.judge(any());
            case 36 -> x.check(any());
            case 37 -> x.look(any(), any());
            case 38 -> x.count(any());
            case 39 -> law();
            case 40, 41, 42 -> rendering();
            case 43 -> rows();
            default -> x.close(dice.nextInt(200));
        }
    }
}
