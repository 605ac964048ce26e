import java.util.NoSuchElementException;
import java.util.Random;

/**
 * Runs of calls by chance (always the same ones) on a GuiltyShave and on the Mirror: each answer is compared.
 * Two numbers behind the name: the first run and how many, for a longer look by hand.
 */
public final class MirrorTest {
    private static final int RUNS = 600;
    private static final int CALLS = 500;

    private final Random dice;
    private final int run;
    private final GuiltyShave real = new GuiltyShave();
    private final Mirror mirror = new Mirror();
    private final StringBuilder story = new StringBuilder();
    private static int wrong = 0;
    private static final int[] answered = new int[41];
    private static final int[] refused = new int[41];

    private MirrorTest(int run) {
        this.run = run;
        this.dice = new Random(run);
    }

    public static void main(String[] args) {
        int first = args.length > 1 ? Integer.parseInt(args[0]) : 0;
        int runs = args.length > 1 ? Integer.parseInt(args[1]) : RUNS;
        for (int run = first; run < first + runs && wrong == 0; run++) {
            new MirrorTest(run).play();
        }
        for (int i = 1; i < 41; i++) {
            if (answered[i] == 0 || refused[i] == 0) {
                System.out.println("promise " + (i + 1) + ": answered " + answered[i] + ", refused " + refused[i]);
                wrong++;
            }
        }
        System.out.println(wrong == 0 ? "all runs are as the mirror's" : wrong + " faults");
        if (wrong != 0) System.exit(1);
    }

    private void play() {
        if (dice.nextInt(10) > 0) {
            tell(0);
        }
        for (int i = 0; i < CALLS && wrong == 0; i++) {
            if (dice.nextInt(40) == 0) {
                tell(dice.nextInt(16) == 0 ? 0 : 1 + dice.nextInt(2));
            }
            if (dice.nextInt(30) == 0) {
                handleTape();
            }
            call(dice.nextInt(46));
        }
        for (int what = -1; what < 16; what++) {
            due("count(" + what + ")", 40, real.count(what), mirror.count(what));
        }
    }

    private void due(String call, int kind, int got, int want) {
        story.append(call).append(" -> ").append(want).append('\n');
        if (want == -1 || want == -1000000 || want == -1000001) refused[kind]++; else answered[kind]++;
        if (got != want) {
            wrong++;
            System.out.println(story);
            System.out.println("run " + run + ": " + call + " answered " + got + ", due is " + want);
        }
    }

    private void due(String call, int kind, boolean got, boolean want) {
        due(call, kind, got ? 1 : -1, want ? 1 : -1);
    }

    // ---- texts

    private void tell(int sort) {
        String text = sort == 0 ? Texts.town(dice) : sort == 1 ? Texts.law(dice) : Texts.week(dice);
        if (dice.nextInt(4) == 0) {
            text = Texts.bent(dice, text);
        }
        due("end(0)", 2, real.end(0), mirror.end(0));
        feed(text);
        due("fault(" + sort + ") of '" + text + "'", 3, real.fault(sort), mirror.fault(sort));
        due("text(" + sort + ")", 4, real.text(sort), mirror.text(sort));
        if (sort == 1 && dice.nextBoolean()) {
            int law = mirror.count(2) - 1;
            due("law(" + law + ")", 8, real.law(law), mirror.law(law));
        }
    }

    /** The TAPE grows and is cut by chance, up to its bound. */
    private void handleTape() {
        if (dice.nextInt(3) > 0) {
            feed(Texts.law(dice));
        } else {
            int n = dice.nextInt(mirror.count(4) + 3) - 1;
            due("end(" + n + ")", 2, real.end(n), mirror.end(n));
        }
        int sort = near(3);
        due("fault(" + sort + ")", 3, real.fault(sort), mirror.fault(sort));
        due("text(" + sort + ")", 4, real.text(sort), mirror.text(sort));
    }

    private void feed(String text) {
        int[] words = Texts.words(text);
        for (int i = 0; i + 4 < words.length; i += 5) {
            int a = words[i], b = words[i + 1], c = words[i + 2], d = words[i + 3], e = words[i + 4];
            due("feed(" + a + ", " + b + ", " + c + ", " + d + ", " + e + ")", 1,
                real.feed(a, b, c, d, e), mirror.feed(a, b, c, d, e));
        }
    }

    // ---- calls

    /** Mostly what is there, at times just beyond. */
    private int near(int end) {
        int r = dice.nextInt(24);
        if (r == 0) return -1;
        if (r == 1) return end;
        if (r == 2) return dice.nextBoolean() ? Integer.MAX_VALUE : Integer.MIN_VALUE;
        return end < 1 ? 0 : dice.nextInt(end);
    }

    private int person() { return near(mirror.count(0)); }
    private int deed() { return near(mirror.count(1)); }
    private int week() { return near(mirror.count(3)); }

    private int throwsOr(int p, int what) {
        try {
            return real.person(p, what);
        } catch (NoSuchElementException e) {
            return Mirror.HIDDEN - 1;
        }
    }

    private void call(int which) {
        if (which < 20) {
            callAct(which);
        } else {
            callQuestion(which);
        }
    }

    private void callAct(int which) {
        int p = person(), o = person(), d = deed();
        switch (which) {
            case 0: case 1: case 2: case 3: case 4:
                due("commit(" + p + ", " + d + ")", 10, real.commit(p, d), mirror.commit(p, d)); break;
            case 5: case 6:
                due("sell(" + p + ", " + o + ", " + d + ")", 11, real.sell(p, o, d), mirror.sell(p, o, d)); break;
            case 7: due("atone(" + p + ", " + d + ")", 12, real.atone(p, d), mirror.atone(p, d)); break;
            case 8: case 9: case 10: due("shave(" + p + ")", 13, real.shave(p), mirror.shave(p)); break;
            case 11: {
                int n = dice.nextInt(8) == 0 ? dice.nextInt(60) - 4 : 1 + dice.nextInt(50);
                due("give(" + n + ")", 14, real.give(n), mirror.give(n));
                break;
            }
            case 12: case 13: due("day()", 15, real.day(), mirror.day()); break;
            case 14: {
                int n = dice.nextInt(10) == 0 ? dice.nextInt(40) - 4 : run % 3 == 0 ? 30 : 1 + dice.nextInt(6);
                long seed = dice.nextLong() >> dice.nextInt(64);
                due("years(" + n + ", " + seed + "L)", 16, real.years(n, seed), mirror.years(n, seed));
                break;
            }
            case 15:
                for (int n = dice.nextInt(12) == 0 ? 45 : dice.nextInt(4); n >= 0; n--) {
                    due("undo()", 17, real.undo(), mirror.undo());
                }
                break;
            case 16: { int w = week(); due("perform(" + w + ")", 21, real.perform(w), mirror.perform(w)); break; }
            case 17:
                if (dice.nextInt(2) == 0) due("image()", 38, real.image(), mirror.image());
                else if (dice.nextInt(3) == 0) due("back()", 39, real.back(), mirror.back());
                break;
            case 18: { int l = near(mirror.count(2)); due("law(" + l + ")", 8, real.law(l), mirror.law(l)); break; }
            default: { int v = near(10); due("rumour(" + v + ")", 9, real.rumour(v), mirror.rumour(v)); break; }
        }
    }

    private void callQuestion(int which) {
        int p = person(), o = person(), d = deed(), w = week();
        switch (which) {
            case 20: { int q = near(5); due("person(" + p + ", " + q + ")", 5, throwsOr(p, q), mirror.person(p, q)); break; }
            case 21: { int q = near(3); due("deed(" + d + ", " + q + ")", 6, real.deed(d, q), mirror.deed(d, q)); break; }
            case 22: due("left(" + p + ", " + d + ")", 7, real.left(p, d), mirror.left(p, d)); break;
            case 23: case 24: {
                int i = near(62), q = near(3);
                due("log(" + i + ", " + q + ")", 18, real.log(i, q), mirror.log(i, q));
                break;
            }
            case 25: {
                int i = near(8), q = near(3);
                due("step(" + w + ", " + i + ", " + q + ")", 19, real.step(w, i, q), mirror.step(w, i, q));
                break;
            }
            case 26: { int q = near(2); due("run(" + w + ", " + q + ")", 20, real.run(w, q), mirror.run(w, q)); break; }
            case 27: { int q = near(3); due("skin(" + p + ", " + q + ")", 22, real.skin(p, q), mirror.skin(p, q)); break; }
            case 28: { int q = near(2); due("least(" + p + ", " + q + ")", 23, real.least(p, q), mirror.least(p, q)); break; }
            case 29: {
                int bits = near(1 << mirror.count(0)), q = near(2);
                due("cover(" + bits + ", " + q + ")", 24, real.cover(bits, q), mirror.cover(bits, q));
                break;
            }
            case 30: due("soon(" + p + ")", 25, real.soon(p), mirror.soon(p)); break;
            case 31: due("clean()", 26, real.clean(), mirror.clean()); break;
            case 32: due("bargain(" + p + ", " + o + ")", 27, real.bargain(p, o), mirror.bargain(p, o)); break;
            case 33: {
                if (dice.nextInt(3) > 0) break;
                int b = near(dice.nextBoolean() ? 100 : 20);
                boolean g = dice.nextBoolean();
                due("seen(" + p + ", " + b + ", " + g + ")", 28, real.seen(p, b, g), mirror.seen(p, b, g));
                break;
            }
            case 34: case 35: {
                int i = dice.nextInt(3) == 0 ? -1 : near(1 << mirror.count(1));
                due("sets(" + p + ", " + i + ")", 29, real.sets(p, i), mirror.sets(p, i));
                break;
            }
            case 36: if (dice.nextInt(3) == 0) due("ask(" + p + ")", 30, real.ask(p), mirror.ask(p)); break;
            default: callLastQuestion(which, p, d); break;
        }
    }

    private void callLastQuestion(int which, int p, int d) {
        switch (which) {
            case 37: {
                int x = near(4), y = near(3), q = near(2);
                due("game(" + p + ", " + x + ", " + y + ", " + q + ")", 31, real.game(p, x, y, q), mirror.game(p, x, y, q));
                break;
            }
            case 38: { int i = near(4) - 1; due("rests(" + p + ", " + i + ")", 32, real.rests(p, i), mirror.rests(p, i)); break; }
            case 39: { int c = near(101); due("odds(" + p + ", " + c + ")", 33, real.odds(p, c), mirror.odds(p, c)); break; }
            case 40: { int c = near(1000); due("shares(" + p + ", " + c + ")", 34, real.shares(p, c), mirror.shares(p, c)); break; }
            case 41: due("owners(" + d + ")", 35, real.owners(d), mirror.owners(d)); break;
            case 42: due("wish(" + p + ")", 36, real.wish(p), mirror.wish(p)); break;
            case 43: case 44: { int q = near(10); due("all(" + q + ")", 37, real.all(q), mirror.all(q)); break; }
            default: { int q = near(15); due("count(" + q + ")", 40, real.count(q), mirror.count(q)); break; }
        }
    }
}
