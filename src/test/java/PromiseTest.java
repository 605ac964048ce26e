import java.util.NoSuchElementException;

/** Promise by promise: ordinary inputs, the edges that the document names, wrong inputs; answers worked out by hand. */
public final class PromiseTest {
    private static final int NONE = -1;
    private static final int HIDDEN = -1000000;
    private static final int THROWN = -1000001;

    // Three people and three deeds: heavy 3, 6, 2; harm 2, 5, 1; they last 2, 9, 1 days.
    private static final String TOWN = "sn2c20;pb4s3w1;pb0s5w0;pb9s0w6;dk3h2l2;dk6h5l9;dk2h1l1";

    private static int promise = 0;
    private static int wrong = 0;
    private static int checks = 0;

    private static void due(String call, long got, long want) {
        checks++;
        if (got != want) {
            wrong++;
            System.out.println("promise " + promise + ": " + call + " answered " + got + ", due is " + want);
        }
    }

    private static void due(String call, boolean got, boolean want) {
        due(call, got ? 1 : 0, want ? 1 : 0);
    }

    private static GuiltyShave town(String text) {
        GuiltyShave x = new GuiltyShave();
        due("the town is told", Texts.tell(x, 0, text) > 0, true);
        return x;
    }

    private static GuiltyShave town() {
        return town(TOWN);
    }

    private static void hold(GuiltyShave x, String law) {
        int number = Texts.tell(x, 1, law);
        due("the law '" + law + "' is told", number >= 0, true);
        due("it holds", x.law(number), true);
    }

    private static int personOf(GuiltyShave x, int person, int what) {
        try {
            return x.person(person, what);
        } catch (NoSuchElementException e) {
            return THROWN;
        }
    }

    private static String repeated(String text, int times) {
        return text.repeat(times);
    }

    public static void main(String[] args) {
        Runnable[] promises = {
            PromiseTest::newObject, PromiseTest::feed, PromiseTest::end, PromiseTest::fault, PromiseTest::text,
            PromiseTest::person, PromiseTest::deed, PromiseTest::left, PromiseTest::law, PromiseTest::rumour,
            PromiseTest::commit, PromiseTest::sell, PromiseTest::atone, PromiseTest::shave, PromiseTest::give,
            PromiseTest::day, PromiseTest::years, PromiseTest::undo, PromiseTest::log, PromiseTest::step,
            PromiseTest::run, PromiseTest::perform, PromiseTest::skin, PromiseTest::least, PromiseTest::cover,
            PromiseTest::soon, PromiseTest::clean, PromiseTest::bargain, PromiseTest::seen, PromiseTest::sets,
            PromiseTest::ask, PromiseTest::game, PromiseTest::rests, PromiseTest::odds, PromiseTest::shares,
            PromiseTest::owners, PromiseTest::wish, PromiseTest::all, PromiseTest::image, PromiseTest::back,
            PromiseTest::count,
        };
        for (Runnable each : promises) {
            promise++;
            int before = checks;
            each.run();
            due("it was looked at", checks > before, true);
        }
        due("how many promises", promise, 41);
        System.out.println(wrong == 0 ? checks + " answers are as due" : wrong + " answers are not as due");
        if (wrong != 0) System.exit(1);
    }

    private static void newObject() {
        GuiltyShave x = new GuiltyShave();
        int[] counts = {0, 0, 0, 0, 0, NONE, 0, 0, 0, 0, 0, 5, 0, 0, 0};
        for (int i = 0; i < counts.length; i++) {
            due("count(" + i + ")", x.count(i), counts[i]);
        }
        due("person(0, 0)", personOf(x, 0, 0), THROWN);
        due("deed(0, 0)", x.deed(0, 0), NONE);
        due("day()", x.day(), NONE);
        due("all(6)", x.all(6), NONE);
        due("clean()", x.clean(), NONE);
        due("back()", x.back(), NONE);
        due("law(NONE)", x.law(NONE), true);
    }

    private static void feed() {
        GuiltyShave x = new GuiltyShave();
        due("zeros", x.feed(0, 0, 0, 0, 0), 0);
        due("bytes within", x.feed(0x70003B00, 0x00000064, 0, 0, 0), 3);
        due("they are p;d", x.text(0), 1);
        due("high bytes count", x.feed(0xFF80FF80, -1, 0, 0, 0x01), 9);
        for (int i = 1; i <= 11; i++) {
            due("twenty more", x.feed(0x20202020, 0x20202020, 0x20202020, 0x20202020, 0x20202020), 9 + 20 * i);
        }
        due("229 and 12", x.feed(0x20202020, 0x20202020, 0x20202020, 0, 0), NONE);
        due("nothing came", x.count(4), 229);
        due("229 and 11", x.feed(0x20202020, 0x20202020, 0x20202000, 0, 0), 240);
        due("240 and 1", x.feed(0, 0, 0, 0, 1), NONE);
        due("240 and 0", x.feed(0, 0, 0, 0, 0), 240);
        for (int word = 0; word < 5; word++) {
            x.end(238);
            int[] w = new int[5];
            w[word] = 0x20002020;
            due("238 and 3, in number " + word, x.feed(w[0], w[1], w[2], w[3], w[4]), NONE);
            w[word] = 0x20000020;
            due("238 and 2, in number " + word, x.feed(w[0], w[1], w[2], w[3], w[4]), 240);
        }
    }

    private static void end() {
        GuiltyShave x = new GuiltyShave();
        due("end(1) of none", x.end(1), false);
        due("end(0) of none", x.end(0), true);
        Texts.feed(x, "p;dx");
        due("end(5)", x.end(5), false);
        due("end(-1)", x.end(-1), false);
        due("all four are there", x.count(4), 4);
        due("end(4)", x.end(4), true);
        due("fault", x.fault(0), 3);
        due("end(3)", x.end(3), true);
        due("no fault", x.fault(0), NONE);
        due("what was cut is gone", x.end(4), false);
    }

    private static void fault() {
        Object[][] towns = {
            {"", 0}, {"   ", 3}, {"p;d", NONE}, {"d;p", NONE}, {" p ; d ", NONE}, {"p", 1}, {"d", 1}, {"p;", 2}, {"p;d;", 4},
            {";p;d", 0}, {"p;;d", 2}, {"x", 0}, {"p,d", 1}, {"s", 1}, {"s;p", 3}, {"s;p;s", 4}, {"sn;p;d", 2},
            {"sn9c99;p;d", NONE}, {"sn10;p;d", 3}, {"sn100;p;d", 4}, {"sc100;p;d", 4}, {"sn1n1;p;d", 3}, {"sb1", 1},
            {"sn 1 c 2;p;d", NONE}, {"sn1 2;p;d", 4}, {"pb00s0w6;d", NONE}, {"pw7;d", 2}, {"pw07;d", 3}, {"pw70;d", 3},
            {"pw06;d", NONE}, {"pw700;d", 4}, {"pb99;d", NONE}, {"ps9;d", NONE}, {"ps10;d", 3}, {"pk1;d", 1},
            {"sn0c0;p;d", NONE}, {"sn001;p;d", 4}, {"dk10;p", 3}, {"dl10;p", 3}, {"dk0;p", 2}, {"dk00;p", 3}, {"dk05;p", NONE}, {"dk000;p", 4}, {"dk9h9l9;p", NONE}, {"dl0;p", 2}, {"dh0;p", NONE},
            {"dh10;p", 3}, {"dk1h1k1;p", 5}, {"p;d\u0001", 3}, {"p;d\u00ff", 3}, {"P;d", 0}, {"pb", 2}, {"pb ;d", 3},
            {repeated("p;", 6) + "d", NONE}, {repeated("p;", 7) + "d", 12}, {repeated("d;", 8) + "p", NONE},
            {repeated("d;", 9) + "p", 16}, {"s;" + repeated("p;", 6) + repeated("d;", 7) + "d", NONE},
            {"s;" + repeated("p;", 6) + repeated("d;", 8) + "s", 30},
        };
        Object[][] laws = {
            {"", 0}, {"y", 1}, {"y:", 2}, {"y:g", NONE}, {" y : g ", NONE}, {"y:g;", 4}, {"y:g;y:s", NONE}, {"x:g", 0}, {"y;g", 1},
            {"y:x", 2}, {"y:9999", NONE}, {"y:12345", 6}, {"y:00001", 6}, {"y:123456", 6}, {"y:1 2", 4}, {"y:g+", 4}, {"y:g+-1", 4}, {"y:-1", 2}, {"y:g>1", 5},
            {"y:g>1;y:g", 5}, {"y:g>1?", 6}, {"y:g>1?s", NONE}, {"y:g?s", 3}, {"y:g&s", 3}, {"y:g>1>2?s", 5}, {"y:g>1&s?1", 7},
            {"y:g>1&s<2|n=3?t", NONE}, {"y:(g>1)?1", NONE}, {"y:(g)?1", 4}, {"y:(g>1", 6}, {"y:(g>1]", 6}, {"y:[g>1]", 4},
            {"y:[g+1]*2>w?b/0", NONE}, {"y:g>1?(s)", 6}, {"y:g>1?!s", 6}, {"y:g>1?s>1", 7}, {"y:!g", 4}, {"y:!g=1?1", NONE},
            {"y:!(g=1|s=2)&!n=0?1", NONE}, {"y:(g=1)+1", 7}, {"y:g)", 3}, {"y:g]", 3}, {"y:g>=1?1", 4}, {"y:1s", 3}, {"y:gs", 3},
            {"y:[[[[[[g]]]]]]", NONE}, {"y:[[[[[[[g]]]]]]]", 8}, {"y:!!!!!!g>1?1", NONE}, {"y:!!!!!![g]>1?1", 8},
            {"y:((((((g>1))))))?1", NONE}, {"y:(((((((g>1", 8}, {"y:!(!(![g]>1))?1", NONE}, {"y:!!!!!!g>[1]?1", 10},
            {"y:[g]+[g]+[g]+[g]+[g]+[g]+[g]+[g]", NONE}, {"y:(!g>1)&(!g>1)&!!!!!!g>1?[[[[[[1]]]]]]", NONE},
            {repeated("y:0;", 59) + "y:0", NONE}, {repeated("y:0;", 60), 240},
        };
        Object[][] weeks = {
            {"", 0}, {"n", NONE}, {" n ", NONE}, {"nn", 1}, {"n;", 2}, {"d", 1}, {"d1", 2}, {"d12", NONE}, {"d 1 2 ", NONE}, {"d123", 3},
            {"s", 1}, {"s0", NONE}, {"s01", 2}, {"a9", 2}, {"a99", NONE}, {"dx2", 1}, {"d1x", 2}, {"x", 0}, {"n;;n", 2}, {"n1", 1},
            {repeated("n;", 15) + "n", NONE}, {repeated("n;", 16), 31}, {repeated("n;", 16) + "n", 31},
            {repeated("n;", 15) + "n ; n", 32},
        };
        Object[][][] sorts = {towns, laws, weeks};
        for (int sort = 0; sort < 3; sort++) {
            for (Object[] row : sorts[sort]) {
                due("fault(" + sort + ") of '" + row[0] + "'", Texts.faultOf(sort, (String) row[0]), (Integer) row[1]);
            }
        }
        due("fault(3)", Texts.faultOf(3, "p;d"), -2);
        due("fault(-1)", Texts.faultOf(-1, "p;d"), -2);
    }

    private static void text() {
        GuiltyShave x = new GuiltyShave();
        due("a fault", Texts.tell(x, 0, "p;dk0"), NONE);
        due("the tape is as it was", x.count(4), 5);
        due("no such sort", x.text(3), NONE);
        due("no such sort", x.text(-1), NONE);
        due("a town of two", Texts.tell(x, 0, "p;d;p"), 2);
        due("the tape is empty", x.count(4), 0);
        for (int i = 0; i < 4; i++) {
            due("a law", Texts.tell(x, 1, "y:" + i), i);
            due("a week", Texts.tell(x, 2, "n;n"), i);
        }
        due("a fifth law", Texts.tell(x, 1, "y:1"), NONE);
        due("its tape stays", x.count(4), 3);
        due("a fifth week", Texts.tell(x, 2, "n"), NONE);
        due("its tape stays", x.count(4), 1);
        x.law(3);
        x.rumour(2);
        x.commit(0, 0);
        x.day();
        x.image();
        x.seen(0, 0, true);
        due("another town", Texts.tell(x, 0, "s c7;d;p b3;p;p"), 3);
        int[] counts = {3, 1, 4, 4, 0, 3, 0, 7, 0, 0, 0, 2, 0, 0, 0};
        for (int i = 0; i < counts.length; i++) {
            due("count(" + i + ")", x.count(i), counts[i]);
        }
        due("nobody has the deed", x.owners(0), 0);
        due("no image of this town", x.back(), NONE);
        due("nothing to undo", x.undo(), NONE);
        due("no log", x.log(0, 0), NONE);
        x.law(NONE);
        x.shave(0);
        due("a nick costs 1, if it is not told", x.count(7), 6);
        x.commit(0, 0);
        due("a refused town", Texts.tell(x, 0, "p"), NONE);
        due("leaves the old one", x.owners(0), 1);
        Texts.tell(x, 0, "sn9c3;p;d");
        due("coins as told", x.count(7), 3);
        Texts.tell(x, 0, "p;d");
        due("twenty coins, if they are not told", x.count(7), 20);
    }

    private static void person() {
        GuiltyShave x = town("pb7s9w6;p;d");
        int[] told = {7, 9, 6, 0, 0};
        int[] untold = {0, 3, 0, 0, 0};
        for (int what = 0; what < 5; what++) {
            due("person(0, " + what + ")", personOf(x, 0, what), told[what]);
            due("person(1, " + what + ")", personOf(x, 1, what), untold[what]);
        }
        due("person(-1, 0)", personOf(x, -1, 0), THROWN);
        due("person(2, 0)", personOf(x, 2, 0), THROWN);
        due("person(0, -1)", personOf(x, 0, -1), THROWN);
        due("person(0, 5)", personOf(x, 0, 5), THROWN);
        hold(x, "y:1");
        x.shave(0);
        int[] shaved = {0, 9, 6, 1, 1};
        for (int what = 0; what < 5; what++) {
            due("shaved: person(0, " + what + ")", personOf(x, 0, what), shaved[what]);
        }
        x.day();
        due("the beard grows", personOf(x, 0, 0), 1);
        due("he may go again", personOf(x, 0, 4), 0);
    }

    private static void deed() {
        GuiltyShave x = town("p;dk1h0l9;d");
        int[] told = {1, 0, 9};
        int[] untold = {3, 2, 5};
        for (int what = 0; what < 3; what++) {
            due("deed(0, " + what + ")", x.deed(0, what), told[what]);
            due("deed(1, " + what + ")", x.deed(1, what), untold[what]);
        }
        due("deed(2, 0)", x.deed(2, 0), NONE);
        due("deed(-1, 0)", x.deed(-1, 0), NONE);
        due("deed(0, 3)", x.deed(0, 3), NONE);
        due("deed(0, -1)", x.deed(0, -1), NONE);
    }

    private static void left() {
        GuiltyShave x = town();
        due("has it not", x.left(0, 0), 0);
        x.commit(0, 0);
        due("two days", x.left(0, 0), 2);
        x.day();
        due("one day", x.left(0, 0), 1);
        x.day();
        due("gone", x.left(0, 0), 0);
        due("left(3, 0)", x.left(3, 0), NONE);
        due("left(0, 3)", x.left(0, 3), NONE);
        due("left(-1, 0)", x.left(-1, 0), NONE);
        due("left(0, -1)", x.left(0, -1), NONE);
    }

    private static void law() {
        GuiltyShave x = town();
        due("law(0) of none", x.law(0), false);
        due("law(-2)", x.law(-2), false);
        Texts.tell(x, 1, "y:7");
        Texts.tell(x, 1, "y:8");
        due("none holds by itself", x.count(5), NONE);
        due("law(1)", x.law(1), true);
        due("read", x.skin(0, 1), 8);
        due("law(1) again", x.law(1), true);
        due("law(2)", x.law(2), false);
        due("it still holds", x.count(5), 1);
        due("law(NONE)", x.law(NONE), true);
        due("read by none", x.skin(0, 1), -3);
    }

    private static void rumour() {
        GuiltyShave x = new GuiltyShave();
        due("rumour(5) is so", x.rumour(5), false);
        due("rumour(-1)", x.rumour(-1), false);
        due("rumour(10)", x.rumour(10), false);
        due("rumour(9)", x.rumour(9), true);
        due("rumour(9) is so", x.rumour(9), false);
        due("rumour(0)", x.rumour(0), true);
        due("count(11)", x.count(11), 0);
    }

    private static void commit() {
        GuiltyShave x = town();
        due("commit(0, 1)", x.commit(0, 1), 6);
        due("commit(0, 0)", x.commit(0, 0), 9);
        due("he has it", x.commit(0, 1), NONE);
        due("commit(1, 1)", x.commit(1, 1), 6);
        due("harm", x.count(8), 12);
        due("commit(3, 0)", x.commit(3, 0), NONE);
        due("commit(0, 3)", x.commit(0, 3), NONE);
        due("commit(-1, 0)", x.commit(-1, 0), NONE);
        due("commit(0, -1)", x.commit(0, -1), NONE);
        due("refused ones are no acts", x.count(14), 3);
        harmHasABound();
    }

    /** Six times eight deeds of harm 9 done anew each day come to more than 9,999 only by weeks of steps. */
    private static void harmHasABound() {
        GuiltyShave x = town("p;p;p;p;p;p" + repeated(";dh9l1", 8));
        for (int w = 0; w < 3; w++) {
            StringBuilder week = new StringBuilder();
            for (int i = 0; i < 16; i++) {
                week.append(i > 0 ? ";" : "").append('d').append(2 * w + i / 8).append(i % 8);
            }
            due("week", Texts.tell(x, 2, week.toString()), w);
        }
        for (int day = 0; day < 23; day++) {
            due("run", x.run(1, 1), 144);
            for (int w = 0; w < 3; w++) {
                due("perform", x.perform(w), 16);
            }
            x.day();
        }
        due("harm", x.count(8), 9936);
        x.perform(0);
        due("harm", x.count(8), 9999);
        due("no more harm", x.run(1, 1), 0);
        due("the log", x.log(0, 2), 9936);
    }

    private static void sell() {
        GuiltyShave x = town("sc2;p;p;dl4;d");
        due("the first has it not", x.sell(0, 1, 0), NONE);
        x.commit(0, 0);
        x.day();
        due("alike", x.sell(0, 0, 0), NONE);
        due("no such other", x.sell(0, 2, 0), NONE);
        due("no such person", x.sell(-1, 1, 0), NONE);
        due("no such deed", x.sell(0, 1, 2), NONE);
        due("sold", x.sell(0, 1, 0), 3);
        due("a coin", x.count(7), 1);
        due("gone here", x.left(0, 0), 0);
        due("there now", x.left(1, 0), 3);
        x.commit(0, 0);
        due("both have it", x.sell(0, 1, 0), NONE);
        x.commit(0, 1);
        due("the last coin", x.sell(0, 1, 1), 5);
        x.atone(1, 1);
        x.commit(0, 1);
        due("no coin", x.sell(1, 0, 1), NONE);
        due("no harm by a sale", x.count(8), 8);
        x = town("p;p;dl1");
        x.commit(0, 0);
        due("with one day left", x.sell(0, 1, 0), 1);
    }

    private static void atone() {
        GuiltyShave x = town("sc3;p;dk4;dk5");
        due("he has it not", x.atone(0, 0), NONE);
        x.commit(0, 0);
        x.commit(0, 1);
        due("no such deed", x.atone(0, 2), NONE);
        due("no such person", x.atone(1, 0), NONE);
        due("atoned", x.atone(0, 0), 5);
        due("two coins", x.count(7), 1);
        due("gone", x.left(0, 0), 0);
        due("harm stays", x.count(8), 4);
        due("one coin is too few", x.atone(0, 1), NONE);
        x.give(1);
        due("two are enough", x.atone(0, 1), 0);
        due("an act", x.undo(), 4);
        due("which is undone", x.left(0, 1), 5);
        x = town("p;dl1");
        x.commit(0, 0);
        due("with one day left", x.atone(0, 0), 0);
    }

    private static void shave() {
        GuiltyShave x = town("sn3c4;pb5s3;pb6s2;d");
        x.commit(0, 0);
        x.commit(1, 0);
        due("3 less 3 is not above 0: nicked", x.shave(0), 0);
        due("3 less 2: shaved", x.shave(1), 1);
        due("nicks", x.count(9), 1);
        due("coins", x.count(7), 1);
        due("the nicked keeps his beard", personOf(x, 0, 0), 5);
        due("the shaved does not", personOf(x, 1, 0), 0);
        due("how often", personOf(x, 1, 3), 1);
        due("once a day", x.shave(0), NONE);
        due("once a day", x.shave(1), NONE);
        due("no such person", x.shave(2), NONE);
        due("no such person", x.shave(-1), NONE);
        x.day();
        due("again", x.shave(0), 0);
        due("no less than no coins", x.count(7), 0);
        timesHaveABound();
    }

    /** A week of eight days on which one goes each day: 125 of them are a thousand times, on days 0 to 999. */
    private static void timesHaveABound() {
        GuiltyShave x = town("p;p;d");
        hold(x, "y:s");
        Texts.tell(x, 2, "s0;n" + repeated(";s0;n", 7));
        for (int i = 0; i < 124; i++) {
            due("a week", x.perform(0), 16);
        }
        due("a week", x.perform(0), 15);
        due("day", x.count(6), 999);
        due("a thousand times shaved are 999", personOf(x, 0, 3), 999);
        x.undo();
        due("the one ahead were 999", personOf(x, 0, 3), 999);
        x.undo();
        due("the day ahead", personOf(x, 0, 3), 999);
        x.undo();
        due("and 998", personOf(x, 0, 3), 998);
        x = town("p;p;p;p;p;p;d");
        Texts.tell(x, 2, "s0;s1;s2;s3;s4;s5;n");
        for (int i = 0; i < 166; i++) {
            due("six nicks", x.perform(0), 7);
        }
        due("nicks", x.count(9), 996);
        x.shave(0);
        x.shave(1);
        x.shave(2);
        due("nicks", x.count(9), 999);
        due("still a nick", x.shave(3), 0);
        due("no more than 999", x.count(9), 999);
    }

    private static void give() {
        GuiltyShave x = new GuiltyShave();
        due("no town", x.give(1), NONE);
        x = town("sc99;p;d");
        due("give(0)", x.give(0), NONE);
        due("give(51)", x.give(51), NONE);
        due("give(-1)", x.give(-1), NONE);
        due("give(1)", x.give(1), 100);
        for (int i = 1; i <= 17; i++) {
            due("give(50)", x.give(50), 100 + 50 * i);
        }
        due("beyond 999", x.give(50), NONE);
        due("give(49)", x.give(49), 999);
        due("beyond 999", x.give(1), NONE);
    }

    private static void day() {
        GuiltyShave x = town("pb0w0;pb0w1;pb99;dl1;dl2");
        x.commit(0, 0);
        x.commit(0, 1);
        x.shave(0);
        due("two are smooth", x.day(), 2);
        due("one is pleased", x.count(10), 1);
        due("the day", x.count(6), 1);
        due("a beard grows", personOf(x, 0, 0), 1);
        due("to 99", personOf(x, 2, 0), 99);
        due("a deed is gone", x.left(0, 0), 0);
        due("a deed has a day less", x.left(0, 1), 1);
        due("nobody went", personOf(x, 0, 4), 0);
        due("none is smooth", x.day(), 0);
        due("none is pleased more", x.count(10), 1);
        due("day() without a town", new GuiltyShave().day(), NONE);
        for (int i = 0; i < 33; i++) {
            x.years(30, i);
        }
        due("the day", x.count(6), 992);
        for (int i = 993; i <= 999; i++) {
            due("a day goes by", x.day() >= 0, true);
        }
        due("none goes by", x.day(), NONE);
        due("the day", x.count(6), 999);
        due("days go on apart", x.soon(0) != NONE, true);
    }

    private static void years() {
        GuiltyShave x = new GuiltyShave();
        due("no town", x.years(1, 1), NONE);
        x = town("sc50;ps0b9;ps0b9;ps0b9;dl9;dl9");
        due("years(0, 1)", x.years(0, 1), NONE);
        due("years(31, 1)", x.years(31, 1), NONE);
        // The draws of the seed 0: x is 1442695040888963407, shifted 167951807, and so on.
        long r = 0;
        int[] drawn = new int[4];
        int[] sides = {3, 2, 10, 3};
        for (int i = 0; i < 4; i++) {
            r = r * 6364136223846793005L + 1442695040888963407L;
            drawn[i] = (int) ((r >>> 33) % sides[i]);
        }
        due("the first draw", drawn[0], 2);
        x.rumour(9);
        due("a day by draws", x.years(1, 0), 1);
        due("the deed", x.owners(drawn[1]), 1 << drawn[0]);
        due("with a day less", x.left(drawn[0], drawn[1]), 8);
        boolean went = drawn[2] < 9;
        boolean shaved = went && drawn[0] == drawn[3];
        due("who was shaved", x.log(0, 1), shaved ? 1 << drawn[3] : 0);
        due("who was nicked", x.count(9), went && !shaved ? 1 : 0);
        due("one act", x.count(14), 1);
        x.undo();
        due("undone whole", x.count(8), 0);
        x.rumour(0);
        due("ten days", x.years(10, 5), 10);
        due("ten acts", x.count(14), 10);
        due("nobody goes without rumour", x.count(9) + personOf(x, 0, 3) + personOf(x, 1, 3) + personOf(x, 2, 3), 0);
        for (int i = 0; i < 32; i++) {
            x.years(30, i);
        }
        due("the day", x.count(6), 970);
        due("beyond 999", x.years(30, 1), NONE);
        due("nothing went by", x.count(6), 970);
        due("up to 999", x.years(29, 1), 999);
        due("beyond 999", x.years(1, 1), NONE);
    }

    private static void undo() {
        GuiltyShave x = town();
        due("nothing", x.undo(), NONE);
        x.commit(0, 0);
        x.sell(0, 1, 0);
        x.shave(2);
        x.give(5);
        x.day();
        due("the day", x.undo(), 4);
        due("day 0", x.count(6), 0);
        due("no log", x.count(13), 0);
        due("he went", personOf(x, 2, 4), 1);
        due("the gift", x.undo(), 3);
        due("coins", x.count(7), 17);
        due("the nick", x.undo(), 2);
        due("coins", x.count(7), 19);
        due("nicks", x.count(9), 0);
        due("the sale", x.undo(), 1);
        due("who has it", x.owners(0), 1);
        due("the deed", x.undo(), 0);
        due("harm", x.count(8), 0);
        due("nothing", x.undo(), NONE);
        for (int i = 0; i < 45; i++) {
            x.day();
        }
        due("forty can be undone", x.count(14), 40);
        for (int i = 39; i >= 0; i--) {
            due("undo()", x.undo(), i);
        }
        due("no more", x.undo(), NONE);
        due("the day", x.count(6), 5);
        due("the log", x.count(13), 5);
    }

    private static void log() {
        GuiltyShave x = town("pb0;ps0b3;dh4");
        due("none", x.log(0, 0), NONE);
        x.commit(1, 0);
        x.shave(0);
        x.shave(1);
        x.day();
        x.day();
        due("the latest: smooth", x.log(0, 0), 0);
        due("the latest: shaved", x.log(0, 1), 0);
        due("the one ahead: smooth", x.log(1, 0), 3);
        due("the one ahead: shaved, not nicked", x.log(1, 1), 2);
        due("the one ahead: harm", x.log(1, 2), 4);
        due("log(2, 0)", x.log(2, 0), NONE);
        due("log(-1, 0)", x.log(-1, 0), NONE);
        due("log(0, 3)", x.log(0, 3), NONE);
        due("log(0, -1)", x.log(0, -1), NONE);
        for (int i = 0; i < 58; i++) {
            x.day();
        }
        due("sixty", x.count(13), 60);
        due("the first", x.log(59, 0), 3);
        x.day();
        due("still sixty", x.count(13), 60);
        due("the first is out", x.log(59, 0), 0);
        due("log(60, 0)", x.log(60, 0), NONE);
        x.undo();
        due("undone, it is back", x.log(59, 0), 3);
    }

    private static void step() {
        GuiltyShave x = new GuiltyShave();
        due("none", x.step(0, 0, 0), HIDDEN);
        Texts.tell(x, 2, "d 4 7;s9;a08;n");
        int[][] steps = {{0, 4, 7}, {1, 9, NONE}, {2, 0, 8}, {3, NONE, NONE}};
        for (int i = 0; i < 4; i++) {
            for (int what = 0; what < 3; what++) {
                due("step(0, " + i + ", " + what + ")", x.step(0, i, what), steps[i][what]);
            }
        }
        due("step(1, 0, 0)", x.step(1, 0, 0), HIDDEN);
        due("step(-1, 0, 0)", x.step(-1, 0, 0), HIDDEN);
        due("step(0, 4, 0)", x.step(0, 4, 0), HIDDEN);
        due("step(0, -1, 0)", x.step(0, -1, 0), HIDDEN);
        due("step(0, 0, 3)", x.step(0, 0, 3), HIDDEN);
        due("step(0, 0, -1)", x.step(0, 0, -1), HIDDEN);
    }

    private static void run() {
        GuiltyShave x = new GuiltyShave();
        Texts.tell(x, 2, "d00;s0;n;s0;a00");
        Texts.tell(x, 2, "d01;d01;n");
        Texts.tell(x, 2, "s0;s0");
        Texts.tell(x, 2, "s7");
        due("no town", x.run(0, 0), HIDDEN);
        Texts.tell(x, 0, "sn2c5;p;dh4;dh1");
        due("3 coins after the nick, 1 after the next: atoning can't be", x.run(0, 0), 4);
        due("harm", x.run(0, 1), 4);
        due("he has it then", x.run(1, 0), 1);
        due("harm up to there", x.run(1, 1), 1);
        due("once a day", x.run(2, 0), 1);
        due("no such person", x.run(3, 0), 0);
        due("no harm", x.run(3, 1), 0);
        due("apart", x.count(8) + x.count(6) + x.count(14), 0);
        x.give(1);
        due("with a coin more all can be", x.run(0, 0), NONE);
        due("run(4, 0)", x.run(4, 0), HIDDEN);
        due("run(-1, 0)", x.run(-1, 0), HIDDEN);
        due("run(0, 2)", x.run(0, 2), HIDDEN);
        due("run(0, -1)", x.run(0, -1), HIDDEN);
        for (int i = 0; i < 33; i++) {
            x.years(30, i);
        }
        x.years(9, 1);
        due("no day goes by behind 999", x.run(0, 0), 2);
    }

    private static void perform() {
        GuiltyShave x = new GuiltyShave();
        Texts.tell(x, 2, "d00;n;s0;a00;n;s0;s0;n");
        due("no town", x.perform(0), NONE);
        Texts.tell(x, 0, "sn2c9;ps2b4;dh4l9");
        due("no such week", x.perform(1), NONE);
        due("no such week", x.perform(-1), NONE);
        due("done", x.perform(0), 6);
        due("acts", x.count(14), 6);
        due("the day", x.count(6), 2);
        due("the log has who was shaved", x.log(0, 1), 1);
        due("coins: two for atoning, two for the nick", x.count(7), 5);
        due("nicks", x.count(9), 1);
        due("at once again: d00, n, s0, a00, n, s0", x.perform(0), 6);
        x.commit(0, 0);
        due("nothing", x.perform(0), 0);
    }

    private static void skin() {
        GuiltyShave x = town("pb4s7w1;d k9;dk1");
        due("read by none", x.skin(0, 1), -7);
        x.commit(0, 0);
        due("guilt", x.skin(0, 0), 9);
        due("read", x.skin(0, 1), 2);
        due("guilty", x.skin(0, 2), 1);
        hold(x, "y:0");
        due("not guilty", x.skin(0, 2), 0);
        hold(x, "y:0-1");
        due("not guilty", x.skin(0, 2), 0);
        x.law(NONE);
        due("skin(1, 0)", x.skin(1, 0), HIDDEN);
        due("skin(-1, 0)", x.skin(-1, 0), HIDDEN);
        due("skin(0, 3)", x.skin(0, 3), HIDDEN);
        due("skin(0, -1)", x.skin(0, -1), HIDDEN);
        skinByLaws();
    }

    private static int readBy(String law) {
        GuiltyShave x = town("pb4s7;ps1;dk9;dk2l9");
        x.commit(0, 0);
        x.commit(0, 1);
        x.shave(0);
        x.day();
        x.day();
        hold(x, law);
        return x.skin(0, 1);
    }

    /** There: g 11, s 7, b 2, n 2, w 2, t 1. */
    private static void skinByLaws() {
        Object[][] laws = {
            {"y:g", 11}, {"y:s", 7}, {"y:b", 2}, {"y:n", 2}, {"y:w", 2}, {"y:t", 1},
            {"y:9999", 99}, {"y:0-9999", -99}, {"y:10-2-3", 5}, {"y:2+3*4", 14}, {"y:[2+3]*4", 20}, {"y:100/7/2", 7},
            {"y:[0-7]/2", -3}, {"y:7/[0-2]", -3}, {"y:7/0", 0}, {"y:9999*9999/9999", 99}, {"y:9999*9999/9999-70", 30},
            {"y:9999*9999-9999*9999", 0}, {"y:9999*101-9999*100", 99}, {"y:[0-9999]*9999/9999+150", 50},
            {"y:9999*9999+5-9999*9999", 0}, {"y:9999*9999-5-9999*9999", -5},
            {"y:9999*9999-9999*100-100", 0}, {"y:9999*9999-9999*100-99", 1}, {"y:0-9999*9999+9999*100+101", 1},
            {"y:[0-9999]*9999+9999*100+100", 0}, {"y:[0-9999]*9999-1+9999*100+100", 0}, {"y:9999*9999+1-9999*100-100", 0},
            {"y:g<11?5;y:6", 6}, {"y:g<12?1;y:2", 1}, {"y:g>9&g<12&g=11?1", 1}, {"y:g>10?5;y:6", 5}, {"y:g>11?5;y:6", 6}, {"y:g>11?5", 0}, {"y:g<12?5", 5}, {"y:g=11?5", 5},
            {"y:!g=11?5;y:6", 6}, {"y:!!g=11?5;y:6", 5}, {"y:g=1|g=11?5;y:6", 5}, {"y:g=1&g=11|b=2?5;y:6", 5},
            {"y:b=2|g=1&g=2?5;y:6", 5}, {"y:(b=2|g=1)&g=2?5;y:6", 6}, {"y:!g=1&g=11?5;y:6", 5}, {"y:!(g=1|g=11)?5;y:6", 6},
            {"y:g=1?1;y:g=2?2;y:g=11?3;y:4", 3}, {"y:g+1>s*1?n+t", 3}, {"y:[g-1]/[s-2]=2?w", 2},
        };
        for (Object[] row : laws) {
            due("read by '" + row[0] + "'", readBy((String) row[0]), (Integer) row[1]);
        }
    }

    private static void least() {
        GuiltyShave x = town("ps3;dk2h1;dk2h1;dk4h2;dk4h3");
        due("2 by one or 2 by two: the fewest", x.least(0, 0), 4);
        due("harm", x.least(0, 1), 2);
        x.commit(0, 2);
        due("guilty already", x.least(0, 0), 0);
        due("harm 0", x.least(0, 1), 0);
        due("least(1, 0)", x.least(1, 0), NONE);
        due("least(-1, 0)", x.least(-1, 0), NONE);
        due("least(0, 2)", x.least(0, 2), NONE);
        due("least(0, -1)", x.least(0, -1), NONE);
        x = town("ps9;dk2;dk2");
        due("by none", x.least(0, 0), NONE);
        due("by none", x.least(0, 1), NONE);
        x = town("ps3;dk3;dk2h4;dk2h4;dk2h4");
        x.commit(0, 0);
        due("of several the least bits, what he has left out", x.least(0, 0), 2);
        x = town("ps5;dk2;dk5h0;dk2h0;dk1h0");
        hold(x, "y:g=3|g=5?1");
        due("no harm, the fewest: only 5", x.least(0, 0), 2);
        hold(x, "y:g=3?1");
        due("just 3", x.least(0, 0), 12);
        x.commit(0, 1);
        due("beyond 3", x.least(0, 0), NONE);
    }

    private static void cover() {
        GuiltyShave x = town("ps1;ps3;ps5;dk2h1;dk4h2;dk6h5");
        due("one", x.cover(1, 0), 1);
        due("two: 4 for both costs 4, 2 and 4 more", x.cover(3, 0), 2);
        due("harm", x.cover(3, 1), 4);
        due("all: 2 and 4 for each", x.cover(7, 0), 3);
        due("harm", x.cover(7, 1), 9);
        x.commit(2, 0);
        x.commit(2, 1);
        due("the third is guilty already", x.cover(7, 0), 2);
        due("and does nothing", x.cover(7, 1), 4);
        due("cover(4, 0)", x.cover(4, 0), 0);
        due("cover(4, 1)", x.cover(4, 1), 0);
        due("cover(0, 0)", x.cover(0, 0), NONE);
        due("cover(8, 0)", x.cover(8, 0), NONE);
        due("cover(-1, 0)", x.cover(-1, 0), NONE);
        due("cover(1, 2)", x.cover(1, 2), NONE);
        due("cover(1, -1)", x.cover(1, -1), NONE);
        x = town("ps0;ps9;dk9");
        due("by none", x.cover(3, 0), NONE);
        due("by none", x.cover(3, 1), NONE);
        due("the first alone", x.cover(1, 1), 2);
    }

    private static void soon() {
        GuiltyShave x = town("ps3;dk2l3;dk2l2;dk4l9");
        due("not guilty", x.soon(0), 0);
        x.commit(0, 0);
        x.commit(0, 1);
        due("in two days", x.soon(0), 2);
        x.commit(0, 2);
        due("in nine days", x.soon(0), 9);
        due("soon(1)", x.soon(1), NONE);
        due("soon(-1)", x.soon(-1), NONE);
        hold(x, "y:1");
        due("never", x.soon(0), NONE);
        hold(x, "y:60-b");
        due("in sixty", x.soon(0), 60);
        hold(x, "y:61-b");
        due("not within sixty", x.soon(0), NONE);
        hold(x, "y:6-w");
        due("on the last day of the week", x.soon(0), 6);
        due("apart", x.count(6), 0);
        for (int i = 0; i < 33; i++) {
            x.years(30, i);
        }
        x.years(9, 1);
        due("999 is day 5 of the week, and days go on", x.soon(0), 1);
    }

    private static void clean() {
        GuiltyShave x = town("p;p;dl9;dl4");
        due("clean", x.clean(), 0);
        x.commit(1, 1);
        due("four", x.clean(), 4);
        x.day();
        due("three", x.clean(), 3);
        x.commit(0, 0);
        due("nine", x.clean(), 9);
        due("no town", new GuiltyShave().clean(), NONE);
    }

    private static void bargain() {
        GuiltyShave x = town("sc0;ps3;ps3;dk4;dk4;dk3;dk5");
        due("he has none", x.bargain(0, 1), NONE);
        x.commit(0, 0);
        due("it would leave him clean", x.bargain(0, 1), NONE);
        x.commit(0, 2);
        due("the other with 3 is not guilty, he with 3 is not", x.bargain(0, 1), NONE);
        x.commit(0, 1);
        due("the lowest, coins do not matter", x.bargain(0, 1), 0);
        x.commit(1, 0);
        due("what the other has is not sold", x.bargain(0, 1), 1);
        due("alike", x.bargain(0, 0), NONE);
        due("bargain(0, 2)", x.bargain(0, 2), NONE);
        due("bargain(2, 0)", x.bargain(2, 0), NONE);
        due("bargain(-1, 0)", x.bargain(-1, 0), NONE);
        due("he would be left with none", x.bargain(1, 0), NONE);
    }

    private static void seen() {
        GuiltyShave x = town("p;p;d");
        due("seen(2, 0)", x.seen(2, 0, true), NONE);
        due("seen(-1, 0)", x.seen(-1, 0, true), NONE);
        due("seen(0, -1)", x.seen(0, -1, true), NONE);
        due("seen(0, 100)", x.seen(0, 100, true), NONE);
        for (int i = 1; i <= 10; i++) {
            due("seen", x.seen(i % 2, 11 * i - 11, false), i);
        }
        due("an eleventh", x.seen(0, 0, true), NONE);
        due("ten", x.count(12), 10);
    }

    private static void sets() {
        GuiltyShave x = town("ps3;ps9;dk2;dk3;dk4");
        due("all eight", x.sets(0, NONE), 8);
        due("the first", x.sets(0, 0), 0);
        due("the last", x.sets(0, 7), 7);
        due("no ninth", x.sets(0, 8), NONE);
        due("sets(0, -2)", x.sets(0, -2), NONE);
        due("sets(2, NONE)", x.sets(2, NONE), NONE);
        due("sets(-1, NONE)", x.sets(-1, NONE), NONE);
        x.seen(0, 0, true);
        due("above 3: 3, 4, 5, 6, 7", x.sets(0, NONE), 5);
        due("the first", x.sets(0, 0), 3);
        due("the other is not meant", x.sets(1, NONE), 8);
        hold(x, "y:g*w+t+n*[b-2]");
        due("by another law on day 0, never shaved: b 0 gives none", x.sets(0, NONE), 0);
        x.seen(1, 3, true);
        x.commit(1, 0);
        x.day();
        due("whatever he has now: one at least", x.sets(1, NONE), 7);
        x.seen(1, 2, true);
        due("nothing fits", x.sets(1, NONE), 0);
        due("nothing fits", x.sets(1, 0), NONE);
    }

    private static void ask() {
        GuiltyShave x = town("p;p;dk1;dk2;dk4");
        due("by none the beard does not matter", x.ask(0), 0);
        hold(x, "y:g-b");
        due("g above b: four of eight with 3", x.ask(0), 3);
        x.seen(0, 3, true);
        due("4 to 7: two of four with 5", x.ask(0), 5);
        x.seen(0, 6, true);
        due("only 7: all are one apart", x.ask(0), 0);
        x.seen(0, 7, true);
        due("nothing fits", x.ask(0), NONE);
        due("the other", x.ask(1), 3);
        due("ask(2)", x.ask(2), NONE);
        due("ask(-1)", x.ask(-1), NONE);
        hold(x, "y:g+96-b-b/99*9");
        due("near the end of the beards", x.ask(1), 98);
        x = town("p;d");
        hold(x, "y:b/99*n");
        due("the longest beard", x.ask(0), 99);
        hold(x, "y:b=1?n*t;y:b=2?n*w;y:b=3?n");
        due("on day 0, never shaved", x.ask(0), 3);
        x = town("p" + repeated(";dk9", 8));
        hold(x, "y:n=8&b=5?1");
        due("all eight, of 256", x.ask(0), 5);
        hold(x, "y:g=72&b=7|n=0&b=9?1");
        due("of several the least", x.ask(0), 7);
    }

    private static void game() {
        GuiltyShave x = town("ps3;dk4;dk1");
        x.commit(0, 0);
        int[][] person = {{6, 0, 0}, {5, -1, -1}, {4, 4, -2}, {3, 3, 3}};
        int[][] barber = {{5, -1, -2}, {5, -1, -2}, {5, 4, -2}, {5, 4, 3}};
        for (int a = 0; a < 4; a++) {
            for (int b = 0; b < 3; b++) {
                due("game(0, " + a + ", " + b + ", 0)", x.game(0, a, b, 0), person[a][b]);
                due("game(0, " + a + ", " + b + ", 1)", x.game(0, a, b, 1), barber[a][b]);
            }
        }
        int[][] wrongs = {{1, 0, 0, 0}, {-1, 0, 0, 0}, {0, 4, 0, 0}, {0, -1, 0, 0}, {0, 0, 3, 0}, {0, 0, -1, 0}, {0, 0, 0, 2}, {0, 0, 0, -1}};
        for (int[] w : wrongs) {
            due("out of bounds", x.game(w[0], w[1], w[2], w[3]), HIDDEN);
        }
        hold(x, "y:g=0?1;y:n=2?1;y:0");
        due("guilt is 0 at least: guilty so", x.game(0, 0, 2, 0), 6);
        due("the barber is wrong", x.game(0, 0, 2, 1), -2);
        due("n is as it is", x.game(0, 1, 0, 0), -1);
    }

    private static void rests() {
        GuiltyShave x = town("ps3;dk4;dk1");
        due("innocent: pretending 2 is worth it, looking is not: at y 0 he pretends, then the barber looks",
            x.rests(0, NONE), 0);
        x.commit(0, 0);
        due("guilty: one", x.rests(0, NONE), 1);
        due("it is 0 and 0", x.rests(0, 0), 0);
        due("no second", x.rests(0, 1), NONE);
        due("rests(0, -2)", x.rests(0, -2), NONE);
        due("rests(1, NONE)", x.rests(1, NONE), NONE);
        due("rests(-1, NONE)", x.rests(-1, NONE), NONE);
        hold(x, "y:g=4|g=0|g=3?1");
        // guilty at (0,0) 4, (0,2) 0, (1,1) 3, (1,2) 0, (3,2) 4; not at 1, 6, 8, 5, 10, 7, 2.
        due("by a law: two", x.rests(0, NONE), 2);
        due("the first", x.rests(0, 0), 0);
        due("the second", x.rests(0, 1), 11);
        hold(x, "y:0");
        due("never guilty: no pretence, no look", x.rests(0, 0), 0);
    }

    private static void odds() {
        GuiltyShave x = town("ps3;dk2;dk3;dk4");
        due("none", x.odds(0, 50), 0);
        x.commit(0, 0);
        x.commit(0, 1);
        x.commit(0, 2);
        due("never overlooked", x.odds(0, 0), 1000000000);
        due("always", x.odds(0, 100), 0);
        // not by {}, {2}, {3}: 1/8 each
        due("by halves", x.odds(0, 50), 625000000);
        // chance 33: 330000000 overlooked ...: {} 35937000, {0} 72963000, {1} 72963000
        due("by 33", x.odds(0, 33), 1000000000 - 35937000 - 72963000 - 72963000);
        due("odds(0, 101)", x.odds(0, 101), NONE);
        due("odds(0, -1)", x.odds(0, -1), NONE);
        due("odds(1, 50)", x.odds(1, 50), NONE);
        due("odds(-1, 50)", x.odds(-1, 50), NONE);
        hold(x, "y:n=1?1");
        due("just one noticed", x.odds(0, 50), 375000000);
        hold(x, "y:n=0?1");
        due("none noticed", x.odds(0, 100), 1000000000);
        oddsAreCut();
    }

    /** With eight deeds and chance 7 the parts no longer come out even: each is cut as it is parted. */
    private static void oddsAreCut() {
        GuiltyShave x = town("p" + repeated(";d", 8));
        for (int d = 0; d < 8; d++) {
            x.commit(0, d);
        }
        hold(x, "y:n=0?1");
        long part = 1000000000;
        for (int d = 0; d < 8; d++) {
            part = part * 7 / 100;
        }
        due("all overlooked", x.odds(0, 7), part);
    }

    private static void shares() {
        GuiltyShave x = town("p;p;p;dk2;dk5");
        due("none has guilt", x.shares(0, 999), 0);
        x.commit(0, 0);
        x.commit(1, 1);
        due("2 of 7", x.shares(0, 100), 28);
        due("5 of 7", x.shares(1, 100), 71);
        due("0 of 7", x.shares(2, 100), 0);
        due("of 0", x.shares(1, 0), 0);
        due("of 999", x.shares(1, 999), 713);
        due("of 1000", x.shares(1, 1000), NONE);
        due("of -1", x.shares(1, -1), NONE);
        due("shares(3, 1)", x.shares(3, 1), NONE);
        due("shares(-1, 1)", x.shares(-1, 1), NONE);
    }

    private static void owners() {
        GuiltyShave x = town();
        due("nobody", x.owners(1), 0);
        x.commit(0, 1);
        x.commit(2, 1);
        due("two", x.owners(1), 5);
        due("owners(3)", x.owners(3), NONE);
        due("owners(-1)", x.owners(-1), NONE);
    }

    private static void wish() {
        GuiltyShave x = town();
        due("tomorrow", x.wish(0), 1);
        due("today", x.wish(1), 0);
        x.day();
        due("today", x.wish(0), 0);
        due("in six", x.wish(1), 6);
        due("in five", x.wish(2), 5);
        due("wish(3)", x.wish(3), NONE);
        due("wish(-1)", x.wish(-1), NONE);
    }

    private static void all() {
        GuiltyShave x = new GuiltyShave();
        due("no town", x.all(0), NONE);
        x = town("pb3s4w1;pb8s2w0;pb8s2w6;dk5h3l2;dk7h1l1;dk7h1l9");
        int[] first = {1, 0, 1, 0, 1, 1, 0, 0, 7, 0};
        for (int i = 0; i < 10; i++) {
            due("all(" + i + ")", x.all(i), first[i]);
        }
        x.commit(0, 0);
        x.commit(1, 1);
        x.commit(2, 2);
        x.shave(2);
        due("longest", x.all(0), 1);
        due("worst", x.all(1), 1);
        due("favourite", x.all(3), 2);
        due("guilty", x.all(6), 7);
        due("smooth", x.all(7), 4);
        due("innocent", x.all(8), 0);
        due("served: 0 tomorrow, 1 today, 2 in six days", x.all(9), 3);
        x.day();
        due("guilty", x.all(6), 5);
        due("innocent", x.all(8), 2);
        due("served: 1 no more", x.all(9), 2);
        due("all(10)", x.all(10), NONE);
        GuiltyShave y = town("p;dh2;dk4h1;dk3h0;dk5");
        due("heaviest of more deeds than people", y.all(4), 3);
        due("cheapest of them", y.all(5), 2);
        y = town("p;p;ps1b2;d");
        due("longest of more people than deeds", y.all(0), 2);
        due("boldest of them", y.all(2), 2);
        due("heaviest", y.all(4), 0);
        hold(y, "y:1");
        y.shave(2);
        due("favourite", y.all(3), 2);
        due("all(-1)", x.all(-1), NONE);
    }

    private static void image() {
        GuiltyShave x = new GuiltyShave();
        due("no town", x.image(), NONE);
        x = town();
        x.day();
        due("day 1", x.image(), 1);
        x.day();
        due("day 2, instead of the one ahead", x.image(), 2);
        x.day();
        due("back to the latter", x.back(), 2);
        due("an image is no act, and back leaves none", x.count(14), 0);
    }

    private static void back() {
        GuiltyShave x = town();
        due("no image", x.back(), NONE);
        x.commit(0, 0);
        x.commit(0, 2);
        x.day();
        x.commit(0, 2);
        x.shave(0);
        x.shave(1);
        x.rumour(7);
        due("image", x.image(), 1);
        int[] before = new int[15];
        for (int i = 0; i < 15; i++) {
            before[i] = x.count(i);
        }
        x.undo();
        x.undo();
        x.undo();
        x.undo();
        x.commit(2, 1);
        x.day();
        x.give(9);
        x.sell(2, 0, 1);
        for (int i = 0; i < 70; i++) {
            x.day();
        }
        x.rumour(1);
        x.seen(0, 0, true);
        Texts.tell(x, 1, "y:1");
        due("back", x.back(), 1);
        before[2] = 1;
        before[11] = 1;
        before[12] = 1;
        before[14] = 0;
        for (int i = 0; i < 15; i++) {
            due("count(" + i + ")", x.count(i), before[i]);
        }
        due("who has what", x.owners(0) * 100 + x.owners(1) * 10 + x.owners(2), 101);
        due("how long", x.left(0, 0), 1);
        due("beard", personOf(x, 0, 0), 0);
        due("how often", personOf(x, 0, 3), 1);
        due("that day", personOf(x, 0, 4) + personOf(x, 1, 4) + personOf(x, 2, 4), 2);
        due("the log", x.log(0, 2), 3);
        due("no act can be undone", x.undo(), NONE);
        x.day();
        due("who was shaved is kept, too", x.log(0, 1), 1);
        due("back again", x.back(), 1);
    }

    private static void count() {
        GuiltyShave x = town("sn5c11;p;p;dh7;dh8;d");
        Texts.tell(x, 1, "y:g");
        Texts.tell(x, 1, "y:g-1");
        Texts.tell(x, 2, "n");
        x.law(1);
        x.rumour(3);
        x.seen(1, 5, true);
        x.commit(0, 0);
        x.commit(0, 1);
        x.shave(1);
        x.day();
        x.day();
        Texts.feed(x, "abc");
        int[] counts = {2, 3, 2, 1, 3, 1, 2, 6, 15, 1, 2, 3, 1, 2, 5};
        for (int i = 0; i < counts.length; i++) {
            due("count(" + i + ")", x.count(i), counts[i]);
        }
        due("count(15)", x.count(15), HIDDEN);
        due("count(-1)", x.count(-1), HIDDEN);
    }
}
