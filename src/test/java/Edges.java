import java.nio.charset.StandardCharsets;
import java.nio.file.Files;
import java.nio.file.Path;
import java.util.ArrayList;
import java.util.List;
import java.util.NoSuchElementException;
import java.util.regex.Matcher;
import java.util.regex.Pattern;

/**
 * What the tests of boundary sentences share: each check stands behind the sentence of the document that it is for,
 * and a refused call is held against an object of the same story on which it was not made.
 */
final class Edges {
    static final int NONE = -1;
    static final int HIDDEN = -1000000;
    static final int THROWN = -1000001;

    private static final Path DOCUMENT = Path.of("../shared/DOC.md");

    // The words by which the document names a boundary case.
    private static final Pattern EDGE_WORDS = Pattern.compile(
        "\\d \\.\\. \\d|at most|at least|NONE: |HIDDEN: |False: |NoSuchElementException: |-2: |HIDDEN for|of several"
        + "|\\bcut|cuts|going round|above 0|modulo|none left|none goes by|\\(the length|out of bounds|this DAY, too"
        + "|1 to 16|1 to 4|one or two digits|the latest|at first|GUILTY already|\\(NONE\\)|i NONE|already|nothing");

    // Told in "What it is" and "Not promised", which promise nothing of a call.
    private static final String FIRST_TOLD = "## Terms";
    private static final String LAST_TOLD = "## Not promised";

    interface Story {
        void on(GuiltyShave x);
    }

    interface Call {
        long on(GuiltyShave x);
    }

    private final List<String> sentences = new ArrayList<>();
    private int checksOfSentence = 1;
    private int checks;
    private int wrong;

    /** The checks that follow are for this sentence of the document, in its own words. */
    void sentence(String words) {
        endSentence();
        sentences.add(words);
        checksOfSentence = 0;
    }

    private void endSentence() {
        if (checksOfSentence == 0) {
            tellWrong("nothing was looked at");
        }
    }

    private void tellWrong(String what) {
        wrong++;
        System.out.println("\"" + sentences.get(sentences.size() - 1) + "\": " + what);
    }

    void due(String call, long got, long want) {
        checks++;
        checksOfSentence++;
        if (got != want) {
            tellWrong(call + " answered " + got + ", due is " + want);
        }
    }

    // ---- stories

    static final String TOWN = "sn2c20;pb4s3w1;pb0s5w0;pb9s0w6;dk3h2l2;dk6h5l9;dk2h1l1";

    /** DAY 1, 21 COINS, an IMAGE, two SEEN, RUMOUR 6; 0 HAS the DEEDS 0 and 1, 1 the DEED 2, 2 the DEED 1; a TAPE. */
    static void busy(GuiltyShave x) {
        Texts.tell(x, 0, TOWN);
        Texts.tell(x, 1, "y:g-s+b/5");
        Texts.tell(x, 1, "y:w=0?1;y:n-t");
        Texts.tell(x, 2, "d00;s1;n;a00");
        x.rumour(6);
        x.commit(0, 0);
        x.commit(2, 1);
        x.shave(0);
        x.shave(2);
        x.day();
        x.commit(1, 2);
        x.image();
        x.give(3);
        x.seen(0, 5, true);
        x.seen(1, 2, false);
        x.commit(0, 1);
        x.shave(1);
        Texts.feed(x, "n;n;s1");
    }

    /** No TOWN, but a LAW that holds, a WEEK, a TAPE. */
    static void townless(GuiltyShave x) {
        Texts.tell(x, 1, "y:g-b");
        x.law(0);
        Texts.tell(x, 2, "n;s0");
        Texts.feed(x, "p;d");
    }

    static Story town(String text) {
        return x -> Texts.tell(x, 0, text);
    }

    static Story both(Story first, Story second) {
        return x -> {
            first.on(x);
            second.on(x);
        };
    }

    static GuiltyShave made(Story story) {
        GuiltyShave x = new GuiltyShave();
        story.on(x);
        return x;
    }

    static GuiltyShave made(String town) {
        return made(town(town));
    }

    static void hold(GuiltyShave x, String law) {
        x.law(Texts.tell(x, 1, law));
    }

    /** So many DAYS in which nobody does a thing, by few calls; it takes a WEEK. */
    static void pass(GuiltyShave x, int days) {
        int week = days < 16 ? NONE : Texts.tell(x, 2, "n" + ";n".repeat(15));
        for (int i = 0; i < days / 16; i++) {
            x.perform(week);
        }
        for (int i = 0; i < days % 16; i++) {
            x.day();
        }
    }

    static int bit(boolean b) {
        return b ? 1 : 0;
    }

    static int personOf(GuiltyShave x, int person, int what) {
        try {
            return x.person(person, what);
        } catch (NoSuchElementException e) {
            return THROWN;
        }
    }

    // ---- checks

    /** What a call answers behind a story. */
    void answers(String name, Story story, Call call, long want) {
        due(name, call.on(made(story)), want);
    }

    /** A call that answers so and changes nothing: all others answer as on an object on which it was not made. */
    void leaves(String name, Story story, Call call, long want) {
        due(name, call.on(made(story)), want);
        List<List<Call>> looks = looks(made(story));
        for (int look = 0; look < looks.size(); look++) {
            GuiltyShave touched = made(story);
            GuiltyShave untouched = made(story);
            call.on(touched);
            List<Call> calls = looks.get(look);
            for (int i = 0; i < calls.size(); i++) {
                due("behind " + name + " call " + i + " of look " + look, calls.get(i).on(touched), calls.get(i).on(untouched));
            }
        }
    }

    /** A text that is one of this sort. */
    void fits(int sort, String text) {
        GuiltyShave x = new GuiltyShave();
        Texts.feed(x, text);
        due("fault(" + sort + ") of '" + text + "'", x.fault(sort), NONE);
        due("text(" + sort + ") of '" + text + "' is taken", bit(x.text(sort) != NONE), 1);
        due("the tape behind it", x.count(4), 0);
    }

    /** A text that is none: where its FAULT is; text refuses it, and the TAPE is as it was. */
    void faulty(int sort, String text, int at) {
        Story fed = both(Edges::busy, x -> {
            x.end(0);
            Texts.feed(x, text);
        });
        leaves("fault(" + sort + ") of '" + text + "'", fed, x -> x.fault(sort), at);
        leaves("text(" + sort + ") of '" + text + "'", fed, x -> x.text(sort), NONE);
    }

    // ---- what can be seen of an object, by looks of calls that stay within what an object is promised to bear

    private static List<List<Call>> looks(GuiltyShave sample) {
        List<List<Call>> looks = new ArrayList<>();
        looks.add(countsAndPeople(sample));
        looks.add(questions(sample));
        looks.add(logAndSteps(sample));
        looks.add(undoing(sample));
        looks.add(goingBack(sample));
        looks.add(lawsAndTape(sample));
        return looks;
    }

    private static List<Call> countsAndPeople(GuiltyShave sample) {
        List<Call> calls = new ArrayList<>();
        upTo(calls, 15, (x, i) -> x.count(i));
        upTo(calls, 3, (x, sort) -> x.fault(sort));
        upTo(calls, sample.count(0) * 5, (x, i) -> personOf(x, i / 5, i % 5));
        upTo(calls, sample.count(1) * 3, (x, i) -> x.deed(i / 3, i % 3));
        upTo(calls, sample.count(0) * 8, (x, i) -> x.left(i / 8, i % 8));
        upTo(calls, sample.count(1), (x, d) -> x.owners(d));
        upTo(calls, 10, (x, what) -> x.all(what));
        return calls;
    }

    private static List<Call> questions(GuiltyShave sample) {
        List<Call> calls = new ArrayList<>();
        upTo(calls, sample.count(0) * 3, (x, i) -> x.skin(i / 3, i % 3));
        upTo(calls, sample.count(0) * 2, (x, i) -> x.least(i / 2, i % 2));
        upTo(calls, sample.count(0), (x, p) -> x.soon(p));
        upTo(calls, sample.count(0), (x, p) -> x.wish(p));
        upTo(calls, sample.count(0), (x, p) -> x.sets(p, NONE));
        upTo(calls, sample.count(0), (x, p) -> x.ask(p));
        upTo(calls, sample.count(0), (x, p) -> x.rests(p, NONE));
        upTo(calls, sample.count(0), (x, p) -> x.game(p, 1, 1, 1));
        upTo(calls, sample.count(0), (x, p) -> x.odds(p, 37));
        upTo(calls, sample.count(0), (x, p) -> x.shares(p, 100));
        upTo(calls, sample.count(0), (x, p) -> x.bargain(p, 0));
        calls.add(x -> x.cover(1, 1));
        calls.add(x -> x.clean());
        return calls;
    }

    private static List<Call> logAndSteps(GuiltyShave sample) {
        List<Call> calls = new ArrayList<>();
        upTo(calls, sample.count(13) * 3, (x, i) -> x.log(i / 3, i % 3));
        upTo(calls, sample.count(3) * 6, (x, i) -> x.step(i / 6, i % 6, 0));
        upTo(calls, sample.count(3), (x, week) -> x.run(week, 0));
        return calls;
    }

    private static List<Call> undoing(GuiltyShave sample) {
        List<Call> calls = new ArrayList<>();
        upTo(calls, (sample.count(14) + 1) * 7, (x, i) -> undoneAndSeen(x, i % 7));
        return calls;
    }

    private static int undoneAndSeen(GuiltyShave x, int i) {
        int[] whats = {0, 6, 7, 8, 9, 13};
        return i == 0 ? x.undo() : i == 1 ? x.owners(0) : x.count(whats[i - 1]);
    }

    private static List<Call> goingBack(GuiltyShave sample) {
        List<Call> calls = new ArrayList<>();
        calls.add(x -> x.back());
        calls.addAll(countsAndPeople(sample));
        calls.add(x -> x.years(2, 77));
        calls.addAll(countsAndPeople(sample));
        return calls;
    }

    private static List<Call> lawsAndTape(GuiltyShave sample) {
        List<Call> calls = new ArrayList<>();
        upTo(calls, sample.count(2) * 2, (x, i) -> i % 2 == 0 ? bit(x.law(i / 2)) : x.skin(0, 1));
        int length = sample.count(4);
        upTo(calls, Math.min(length, 40) * 4, (x, i) -> i % 4 == 3 ? bit(x.end(length - i / 4 - 1)) : x.fault(i % 4));
        return calls;
    }

    private interface CallWith {
        long on(GuiltyShave x, int i);
    }

    private static void upTo(List<Call> calls, int end, CallWith call) {
        for (int i = 0; i < end; i++) {
            int number = i;
            calls.add(x -> call.on(x, number));
        }
    }

    // ---- the document

    /** Each sentence is the document's, and each boundary that the document names stands in one of them. */
    void holdAgainstDocument() throws Exception {
        endSentence();
        if (!Files.exists(DOCUMENT)) {
            System.out.println("the document is not here: what it names was not held against the sentences");
            return;
        }
        String document = Files.readString(DOCUMENT, StandardCharsets.UTF_8).replaceAll("\\s+", " ");
        boolean[] told = new boolean[document.length()];
        for (String words : sentences) {
            int at = document.indexOf(words);
            if (at < 0 || document.indexOf(words, at + 1) >= 0) {
                wrong++;
                System.out.println("\"" + words + "\" stands " + (at < 0 ? "not" : "more than once") + " in the document");
            }
            for (int i = 0; at >= 0 && i < words.length(); i++) {
                told[at + i] = true;
            }
        }
        Matcher edges = EDGE_WORDS.matcher(document);
        edges.region(document.indexOf(FIRST_TOLD), document.indexOf(LAST_TOLD));
        while (edges.find()) {
            if (!told[edges.start()]) {
                wrong++;
                int from = Math.max(0, edges.start() - 60);
                int to = Math.min(document.length(), edges.end() + 60);
                System.out.println("no test is for \"" + document.substring(from, to) + "\"");
            }
        }
    }

    /** How many answers are not as due. */
    int tellAll() {
        System.out.println(sentences.size() + " sentences, " + checks + " answers: "
            + (wrong == 0 ? "all are as due" : wrong + " are not as due"));
        return wrong;
    }
}
