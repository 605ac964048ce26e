/** The edges of texts: part 1 of the terms, promises 1 to 5, 9 and 20. */
final class TextEdges {
    private static final int NONE = Edges.NONE;
    private static final int HIDDEN = Edges.HIDDEN;
    private static final int FAR = Integer.MAX_VALUE;
    private static final int DEEP = Integer.MIN_VALUE;

    private TextEdges() {
    }

    static void tell(Edges e) {
        newObject(e);
        clausesOfTowns(e);
        itemsOfTowns(e);
        numbersOfRules(e);
        numbersOfPeople(e);
        numbersOfDeeds(e);
        lawsAreFour(e);
        clausesOfLaws(e);
        partsOfLaws(e);
        within(e);
        numbersInLaws(e);
        worth(e);
        weeksAreFour(e);
        stepsOfWeeks(e);
        blanks(e);
        faultAtTheEnd(e);
        faultInNumbers(e);
        faultAtSurplus(e);
        stepsThatAreNotThere(e);
        feed(e);
        end(e);
        fault(e);
        text(e);
        textBehindAnother(e);
        law(e);
        step(e);
    }

    private static void newObject(Edges e) {
        e.sentence("`GuiltyShave()`: No TOWN.");
        int[] counts = {0, 0, 0, 0, 0, NONE, 0, 0, 0, 0, 0, 5, 0, 0, 0};
        for (int what = 0; what < counts.length; what++) {
            int asked = what;
            e.leaves("count(" + what + ")", x -> { }, x -> x.count(asked), counts[what]);
        }
        e.leaves("person(0, 0)", x -> { }, x -> Edges.personOf(x, 0, 0), Edges.THROWN);
        e.leaves("image()", x -> { }, x -> x.image(), NONE);
    }

    private static void clausesOfTowns(Edges e) {
        e.sentence("s (its RULES; one at most)");
        e.fits(0, "p;d");
        e.fits(0, "s;p;d");
        e.faulty(0, "s;s;p;d", 2);
        e.faulty(0, "p;s;d;s", 6);

        e.sentence("p (a PERSON; 1 .. 6)");
        e.faulty(0, "d", 1);
        for (int people = 1; people <= 6; people++) {
            String town = "p;".repeat(people) + "d";
            e.fits(0, town);
            e.answers("text(0) of '" + town + "'", x -> Texts.feed(x, town), x -> x.text(0), people);
        }
        e.faulty(0, "p;p;p;p;p;p;p;d", 12);
        e.faulty(0, "d;pb9;pb9;pb9;pb9;pb9;pb9;p", 26);

        e.sentence("d (a DEED; 1 .. 8), in any order");
        e.faulty(0, "p", 1);
        for (int deeds = 1; deeds <= 8; deeds++) {
            String town = "d;".repeat(deeds) + "p";
            e.fits(0, town);
            e.answers("count(1) of '" + town + "'", Edges.town(town), x -> x.count(1), deeds);
        }
        e.faulty(0, "d;d;d;d;d;d;d;d;d;p", 16);
        e.fits(0, "s" + ";p".repeat(6) + ";d".repeat(8));
        e.fits(0, "d;p;d;s;p");
        GuiltyShave x = Edges.made("dk7;pb8;sc9;dk6;pb5");
        e.due("the first deed", x.deed(0, 0), 7);
        e.due("the second deed", x.deed(1, 0), 6);
        e.due("the first person", x.person(0, 0), 8);
        e.due("the second person", x.person(1, 0), 5);
        e.due("coins", x.count(7), 9);
    }

    private static void itemsOfTowns(Edges e) {
        e.sentence("then ITEMS, none or more: a letter, each once at most in a CLAUSE, and a number (one or two digits)");
        e.fits(0, "s;p;d");
        e.fits(0, "sc1n2;pw1s2b3;dl1h2k3");
        e.fits(0, "pb1;pb1;dk1;dk1");
        e.faulty(0, "pb1b1;d", 3);
        e.faulty(0, "pb1s1w1b1;d", 7);
        e.faulty(0, "dk1h1l1k1;p", 7);
        e.faulty(0, "sn1c1c1;p;d", 5);
        e.faulty(0, "pb;d", 2);
        e.fits(0, "pb1;d");
        e.fits(0, "pb12;d");
        e.faulty(0, "pb123;d", 4);
        e.faulty(0, "p1;d", 1);
        for (String wrong : new String[] {"sb1", "ss1", "sw1", "sk1", "pn1", "pc1", "pk1", "ph1", "dn1", "db1", "ds1", "dw1"}) {
            e.faulty(0, wrong, 1);
        }
    }

    /** Of a letter: the bounds are told, the numbers beside them are FAULTS. */
    private static void numbersOf(Edges e, String clause, String rest, int low, int high, int untold, Edges.Call shown) {
        int at = clause.length();
        for (int v = low; v <= high; v++) {
            e.fits(0, clause + v + rest);
            e.answers(clause + v, Edges.town(clause + v + rest), shown, v);
        }
        e.answers(clause + "0" + high % 10, Edges.town(clause + "0" + high % 10 + rest), shown, high % 10);
        if (high < 99) {
            e.faulty(0, clause + (high + 1) + rest, high < 9 ? at : at + 1);
            e.faulty(0, clause + "99" + rest, at + 1);
        } else {
            e.faulty(0, clause + "100" + rest, at + 2);
        }
        if (low > 0) {
            e.faulty(0, clause + "0" + rest, at);
            e.faulty(0, clause + "00" + rest, at + 1);
        }
        e.faulty(0, clause + "-1" + rest, at);
        String without = clause.substring(0, at - 1) + rest;
        e.answers("without it", Edges.town(without), shown, untold);
    }

    private static long costOfNick(GuiltyShave x) {
        int before = x.count(7);
        x.shave(0);
        return before - x.count(7);
    }

    private static void numbersOfRules(Edges e) {
        e.sentence("n how much a NICK costs (0 .. 9; 1 without)");
        numbersOf(e, "sn", ";p;d", 0, 9, 1, TextEdges::costOfNick);
        e.answers("without RULES", Edges.town("p;d"), TextEdges::costOfNick, 1);

        e.sentence("c COINS (0 .. 99; 20)");
        numbersOf(e, "sc", ";p;d", 0, 99, 20, x -> x.count(7));
        e.answers("without RULES", Edges.town("p;d"), x -> x.count(7), 20);
    }

    private static void numbersOfPeople(Edges e) {
        e.sentence("b BEARD in DAYS (0 .. 99; 0)");
        numbersOf(e, "pb", ";d", 0, 99, 0, x -> x.person(0, 0));
        e.sentence("s SHAME (0 .. 9; 3)");
        numbersOf(e, "ps", ";d", 0, 9, 3, x -> x.person(0, 1));
        e.sentence("w on which day of the week he WISHES to be smooth (0 .. 6; 0)");
        numbersOf(e, "pw", ";d", 0, 6, 0, x -> x.person(0, 2));
    }

    private static void numbersOfDeeds(Edges e) {
        e.sentence("k how HEAVY (1 .. 9; 3)");
        numbersOf(e, "dk", ";p", 1, 9, 3, x -> x.deed(0, 0));
        e.sentence("h HARM (0 .. 9; 2)");
        numbersOf(e, "dh", ";p", 0, 9, 2, x -> x.deed(0, 1));
        e.sentence("l how many DAYS it LASTS (1 .. 9; 5)");
        numbersOf(e, "dl", ";p", 1, 9, 5, x -> x.deed(0, 2));
    }

    private static void lawsAreFour(Edges e) {
        e.sentence("LAWS (4 at most) are TEXTS");
        GuiltyShave x = new GuiltyShave();
        for (int i = 0; i < 4; i++) {
            e.due("a law", Texts.tell(x, 1, "y:" + (10 + i)), i);
            e.due("laws", x.count(2), i + 1);
        }
        Edges.Story full = Edges.both(Edges::busy, y -> {
            Texts.tell(y, 1, "y:3");
            Texts.tell(y, 1, "y:4");
            Texts.feed(y, "y:5");
        });
        e.leaves("fault(1) of a fifth law", full, y -> y.fault(1), NONE);
        e.leaves("text(1) of a fifth law", full, y -> y.text(1), NONE);
        e.answers("its tape stays", full, y -> y.text(1) + y.count(4), 2);
        e.answers("the fourth stands", full, y -> y.text(1) + Edges.bit(y.law(3)) + y.skin(0, 1), 4);
        e.leaves("law(4)", full, y -> Edges.bit(y.law(4)), 0);
    }

    private static void clausesOfLaws(Edges e) {
        e.sentence("CLAUSES with ; between, one at least: y, : , perhaps CONDITION ?, then SUM");
        e.faulty(1, "", 0);
        e.fits(1, "y:1");
        e.fits(1, "y:g>1?1");
        e.fits(1, "y:1;y:2");
        e.fits(1, "y:0;".repeat(59) + "y:0");
        e.faulty(1, "y:0;".repeat(60), 240);
        e.faulty(1, ";y:1", 0);
        e.faulty(1, "y:1;", 4);
        e.faulty(1, "y:1;;y:2", 4);
        e.faulty(1, "y:1y:2", 3);
        e.faulty(1, "y", 1);
        e.faulty(1, "y1", 1);
        e.faulty(1, "y:", 2);
        e.faulty(1, "y:;y:1", 2);
        e.faulty(1, "y:?1", 2);
        e.faulty(1, "y:g>1", 5);
        e.faulty(1, "y:g>1?", 6);
        e.faulty(1, "y:g>1?;y:1", 6);
        e.faulty(1, "y:1?1", 3);
        e.faulty(1, "y:g>1?1?1", 7);

        e.sentence("CONDITION: TRUTHS with | between; TRUTH: UNITS with & between; UNIT: ! UNIT, ( CONDITION ), or SUM, one of "
            + "= < >, SUM.");
        e.fits(1, "y:g=1?1");
        e.fits(1, "y:g=1|g<2|g>3&n=1&n<2?1");
        e.fits(1, "y:!g=1?1");
        e.fits(1, "y:(g=1)?1");
        e.faulty(1, "y:|g=1?1", 2);
        e.faulty(1, "y:g=1|?1", 6);
        e.faulty(1, "y:g=1||g=2?1", 6);
        e.faulty(1, "y:g=1&?1", 6);
        e.faulty(1, "y:g=1|s?1", 7);
        e.faulty(1, "y:g=?1", 4);
        e.faulty(1, "y:=g?1", 2);
        e.faulty(1, "y:g==1?1", 4);
        e.faulty(1, "y:g=1=1?1", 5);
        e.faulty(1, "y:!?1", 3);
        e.faulty(1, "y:g=1!g=2?1", 5);
        e.faulty(1, "y:()?1", 3);
        e.faulty(1, "y:(g=1?1", 6);
        e.faulty(1, "y:g=1)?1", 5);
        e.faulty(1, "y:(g=1)(g=2)?1", 7);
    }

    private static void partsOfLaws(Edges e) {
        e.sentence("SUM: TERMS with + or - between; TERM: ATOMS with * or / between; ATOM: a number (1 to 4 digits), a letter "
            + "(g s b n w t), [ SUM ].");
        for (String right : new String[] {"0", "9", "99", "999", "9999", "0000", "g", "s", "b", "n", "w", "t", "[1]", "1+2-3*4/5"}) {
            e.fits(1, "y:" + right);
        }
        e.faulty(1, "y:10000", 6);
        e.faulty(1, "y:00000", 6);
        e.faulty(1, "y:1+", 4);
        e.faulty(1, "y:+1", 2);
        e.faulty(1, "y:-1", 2);
        e.faulty(1, "y:1+-1", 4);
        e.faulty(1, "y:1*", 4);
        e.faulty(1, "y:/1", 2);
        e.faulty(1, "y:1 2", 4);
        e.faulty(1, "y:1g", 3);
        e.faulty(1, "y:gg", 3);
        e.faulty(1, "y:[]", 3);
        e.faulty(1, "y:[1", 4);
        e.faulty(1, "y:1]", 3);
        e.faulty(1, "y:[1)", 4);
        for (String wrong : new String[] {"a", "c", "d", "h", "k", "l", "p", "y", "G", ".", "%"}) {
            e.faulty(1, "y:" + wrong, 2);
        }

        e.sentence("(A CLAUSE that goes on with ! or ( behind its : has a CONDITION.)");
        e.fits(1, "y:!g=1?1");
        e.fits(1, "y:(g=1)?1");
        e.fits(1, "y: ( g = 1 ) ? 1");
        e.faulty(1, "y:!g=1", 6);
        e.faulty(1, "y:(g=1)", 7);
        e.faulty(1, "y:(g)", 4);
        e.faulty(1, "y:!g", 4);
        e.faulty(1, "y:(g=1)+1", 7);
        e.faulty(1, "y:(g+1)=2?1", 6);
        e.faulty(1, "y:g=1?(1)", 6);
        e.faulty(1, "y:g=1?!1", 6);
    }

    private static void within(Edges e) {
        e.sentence("At most six of ( [ ! within one another.");
        for (int deep = 5; deep <= 6; deep++) {
            e.fits(1, "y:" + "[".repeat(deep) + "g" + "]".repeat(deep));
            e.fits(1, "y:" + "(".repeat(deep) + "g=1" + ")".repeat(deep) + "?1");
            e.fits(1, "y:" + "!".repeat(deep) + "g=1?1");
        }
        e.faulty(1, "y:" + "[".repeat(7) + "g" + "]".repeat(7), 8);
        e.faulty(1, "y:" + "(".repeat(7) + "g=1" + ")".repeat(7) + "?1", 8);
        e.faulty(1, "y:" + "!".repeat(7) + "g=1?1", 8);
        e.fits(1, "y:!(!(![g]=1))?1");
        e.faulty(1, "y:!(!(![[g]]=1))?1", 8);
        e.fits(1, "y:!!!!!!g=1?1");
        e.faulty(1, "y:!!!!!!g=[1]?1", 10);
        e.faulty(1, "y:!!!!!!(g=1)?1", 8);
        e.faulty(1, "y:((((([[g]]=1)))))?1", 8);
        e.faulty(1, "y:g=1?[[[[[[[g]]]]]]]", 12);
        e.faulty(1, "y:1;y:[[[[[[[g]]]]]]]", 12);
        // What stands side by side is not within one another.
        e.fits(1, "y:[g]+[g]+[g]+[g]+[g]+[g]+[g]");
        e.fits(1, "y:!g=1&!g=2&!g=3&!g=4&!g=5&!g=6&!g=7?1");
        e.fits(1, "y:(g=1)|(g=2)|(g=3)|(g=4)|(g=5)|(g=6)|(g=7)?[[[[[[1]]]]]]");
        e.fits(1, "y:!!!!!!g=1&!!!!!!g=1?[[[[[[1]]]]]]+[[[[[[1]]]]]]");
        readsTo(e, "y:[[[[[[g]]]]]]+4", 4);
        readsTo(e, "y:!!!!!!g=0?7", 7);
        readsTo(e, "y:!!!!!g=0?7;y:8", 8);
    }

    /** A LAW that is true is told to a new TOWN: 1 is READ by it, else 0. */
    private static void holds(Edges e, String condition, boolean want) {
        readsTo(e, "y:" + condition + "?1", Edges.bit(want));
    }

    private static void readsTo(Edges e, String law, int want) {
        GuiltyShave x = Edges.made("p;d");
        Edges.hold(x, law);
        e.due("read by '" + law + "'", x.skin(0, 1), want);
    }

    private static void numbersInLaws(Edges e) {
        String million = "1000*1000";
        String less = "[0-1000]*1000";
        e.sentence("Behind each sign numbers are within -1,000,000 .. 1,000,000");
        holds(e, "999*1001<" + million, true);
        holds(e, million + "-1<" + million, true);
        holds(e, million + "=" + million + "+1", true);
        holds(e, "1000*1001=" + million, true);
        holds(e, "9999*9999=" + million, true);
        holds(e, million + "+1-1=999*1000+999", true);
        holds(e, "[999*1000+999]+1=" + million, true);
        holds(e, "[999*1000+999]+2=" + million, true);
        holds(e, "9999*9999/100=9999+1", true);
        holds(e, less + "+1>" + less, true);
        holds(e, less + "=" + less + "-1", true);
        holds(e, "[0-1000]*1001=" + less, true);
        holds(e, "[0-9999]*9999=" + less, true);
        holds(e, less + "-1+1>" + less, true);
        holds(e, less + "*[0-1]=" + million, true);
        holds(e, less + "*[0-9999]=" + million, true);
        holds(e, "0-" + million + "=" + less, true);
        holds(e, less + "/[0-1]=" + million, true);

        e.sentence("/ cuts towards 0, by 0 gives 0.");
        readsTo(e, "y:6/3", 2);
        readsTo(e, "y:7/3", 2);
        readsTo(e, "y:8/3", 2);
        readsTo(e, "y:9/3", 3);
        readsTo(e, "y:2/3", 0);
        readsTo(e, "y:[0-7]/3", -2);
        readsTo(e, "y:[0-8]/3", -2);
        readsTo(e, "y:[0-9]/3", -3);
        readsTo(e, "y:8/[0-3]", -2);
        readsTo(e, "y:[0-8]/[0-3]", 2);
        readsTo(e, "y:[0-2]/3", 0);
        readsTo(e, "y:7/0", 0);
        readsTo(e, "y:0/0", 0);
        readsTo(e, "y:[0-7]/0+5", 5);
        readsTo(e, "y:7/[3-3]*9", 0);
        readsTo(e, "y:7/g", 0);
        holds(e, "7/0=0", true);
    }

    private static void worth(Edges e) {
        e.sentence("WORTH of a LAW: the SUM of the first CLAUSE whose CONDITION holds (or has none), 0 without.");
        readsTo(e, "y:s=3?4;y:s=3?5;y:6", 4);
        readsTo(e, "y:s=2?4;y:s=3?5;y:6", 5);
        readsTo(e, "y:s=2?4;y:s=4?5;y:6", 6);
        readsTo(e, "y:6;y:s=3?4", 6);
        readsTo(e, "y:s=2?4;y:s=4?5", 0);
        readsTo(e, "y:s=2?4", 0);
        readsTo(e, "y:s<3?4", 0);
        readsTo(e, "y:s<4?4", 4);
        readsTo(e, "y:s>3?4", 0);
        readsTo(e, "y:s>2?4", 4);
        readsTo(e, "y:s=3|s=4&s=5?4", 4);
        readsTo(e, "y:(s=3|s=4)&s=5?4", 0);
        readsTo(e, "y:!s=3&s=3?4", 0);
        readsTo(e, "y:!s=4&s=3?4", 4);
        readsTo(e, "y:s<4&s=3&s>2?4", 4);
        readsTo(e, "y:!s<4?4;y:5", 5);
        readsTo(e, "y:!s>2?4;y:5", 5);
        readsTo(e, "y:!s>3?4;y:5", 4);
        readsTo(e, "y:0;".repeat(59) + "y:7", 0);
        readsTo(e, "y:g>9?1;".repeat(29) + "y:7", 7);
    }

    private static void weeksAreFour(Edges e) {
        e.sentence("WEEKS (4 at most) are TEXTS");
        GuiltyShave x = new GuiltyShave();
        for (int i = 0; i < 4; i++) {
            e.due("a week", Texts.tell(x, 2, "s" + i), i);
            e.due("weeks", x.count(3), i + 1);
        }
        Edges.Story full = Edges.both(Edges::busy, y -> {
            Texts.tell(y, 2, "s0");
            Texts.tell(y, 2, "s1");
            Texts.tell(y, 2, "s2");
            Texts.feed(y, "s3");
        });
        e.leaves("fault(2) of a fifth week", full, y -> y.fault(2), NONE);
        e.leaves("text(2) of a fifth week", full, y -> y.text(2), NONE);
        e.answers("its tape stays", full, y -> y.text(2) + y.count(4), 1);
        e.answers("the fourth stands", full, y -> y.text(2) + y.step(3, 0, 1), 1);
        e.leaves("step(4, 0, 0)", full, y -> y.step(4, 0, 0), HIDDEN);
    }

    private static void stepsOfWeeks(Edges e) {
        e.sentence("STEPS with ; between, 1 to 16: d and two digits");
        e.faulty(2, "", 0);
        e.fits(2, "n");
        e.fits(2, "n" + ";n".repeat(14));
        e.fits(2, "n" + ";n".repeat(15));
        e.faulty(2, "n" + ";n".repeat(16), 31);
        e.faulty(2, "n" + ";n".repeat(15) + ";", 31);
        e.faulty(2, "n" + ";n".repeat(15) + ";x", 31);
        e.faulty(2, "n" + ";n".repeat(15) + "n", 31);
        e.faulty(2, "n;", 2);
        e.faulty(2, ";n", 0);
        e.faulty(2, "n;;n", 2);
        e.faulty(2, "nn", 1);
        GuiltyShave x = new GuiltyShave();
        Texts.tell(x, 2, "n;n;n;n;n;n;n;n;n;n;n;n;n;n;n;d98");
        e.due("the sixteenth", x.step(0, 15, 0) * 100 + x.step(0, 15, 1) * 10 + x.step(0, 15, 2), 98);
        e.due("a seventeenth", x.step(0, 16, 0), HIDDEN);

        e.sentence("s and a digit (he goes to be SHAVED), a and two digits (he ATONES for the DEED), n (a DAY goes by).");
        for (String right : new String[] {"d00", "d99", "s0", "s9", "a00", "a99", "n"}) {
            e.fits(2, right);
        }
        e.faulty(2, "d", 1);
        e.faulty(2, "d0", 2);
        e.faulty(2, "d000", 3);
        e.faulty(2, "s", 1);
        e.faulty(2, "s00", 2);
        e.faulty(2, "a", 1);
        e.faulty(2, "a0", 2);
        e.faulty(2, "a000", 3);
        e.faulty(2, "n0", 1);
        e.faulty(2, "d;n", 1);
        e.faulty(2, "p", 0);
        e.faulty(2, "D00", 0);
    }

    private static void blanks(Edges e) {
        e.sentence("Blanks (32) may stand between all signs of these, not within numbers (between digits of a STEP they may).");
        e.fits(0, "  s  n 1  c 22 ;  p b 3 ; d k 4  ");
        e.faulty(0, "pb1 2;d", 4);
        e.faulty(0, "pb1 ;d 2", 7);
        e.fits(1, " y : g = 12 | ! ( s < 3 ) ? [ g + 1 ] * 2 ; y : 7 ");
        e.faulty(1, "y:1 2", 4);
        e.faulty(1, "y:99 9", 5);
        e.fits(2, " d  0  1 ; s  2 ; a 3   4 ; n  ");
        e.answers("the digits", x -> Texts.tell(x, 2, "d 7  8"), x -> x.step(0, 0, 1) * 10 + x.step(0, 0, 2), 78);
        e.faulty(2, "d 0 1 2", 6);
        e.faulty(0, "p;\td", 2);
        e.faulty(0, "p;\nd", 2);
        e.faulty(0, "p;d\u00a0", 3);
        e.faulty(0, "p;d\u001f", 3);
        e.faulty(0, "p;d!", 3);
        e.faulty(1, "y:\tg", 2);
        e.faulty(2, "d\t01", 1);
        e.faulty(0, " ".repeat(240), 240);
        e.faulty(1, "    ", 4);
        e.faulty(2, "    ", 4);
        e.fits(0, "p;d" + " ".repeat(237));
    }

    private static void faultAtTheEnd(Edges e) {
        e.sentence("FAULT: the first byte at which no such TEXT can go on (the length, if it ends too early, without a PERSON or a "
            + "DEED)");
        e.faulty(0, "", 0);
        e.faulty(0, "s", 1);
        e.faulty(0, "s;", 2);
        e.faulty(0, "s;p", 3);
        e.faulty(0, "s;d  ", 5);
        e.faulty(0, "p;d;", 4);
        e.faulty(0, "p;d; ", 5);
        e.faulty(0, "p;db", 3);
        e.faulty(0, "p;dk", 4);
        e.faulty(0, "p;dk ", 5);
        e.fits(0, "p;dk1");
        e.faulty(0, "p;d;pb", 6);
        e.faulty(0, "p;d;sn1c ", 9);
        e.faulty(0, "x", 0);
        e.faulty(0, "p;d\u0001", 3);
        e.faulty(0, "p;d\u00ff", 3);
        e.faulty(0, "p:d", 1);
        e.faulty(1, "y:g>1 ", 6);
        e.faulty(1, "y:(g>1) ", 8);
        e.faulty(1, "y:[g+[1]", 8);
        e.faulty(2, "n; ", 3);
        e.faulty(2, "d1 ", 3);
    }

    private static void faultInNumbers(Edges e) {
        e.sentence("a number out of bounds is wrong at its last digit");
        e.faulty(0, "pw7;d", 2);
        e.faulty(0, "pw07;d", 3);
        e.faulty(0, "pw70;d", 3);
        e.faulty(0, "pw7 ;d", 2);
        e.faulty(0, "pw70", 3);
        e.faulty(0, "dk0", 2);
        e.faulty(0, "dk00", 3);
        e.fits(0, "p;dk01");
        e.faulty(0, "sn10;p;d", 3);
        e.faulty(0, "p;d;sn99x", 7);

        e.sentence("a third digit (whatever stands ahead of it; a fifth one in a LAW) itself");
        e.fits(0, "pb99;d");
        e.faulty(0, "pb999;d", 4);
        e.faulty(0, "pb001;d", 4);
        e.faulty(0, "pw990;d", 4);
        e.faulty(0, "pw999999;d", 4);
        e.faulty(0, "dk000;p", 4);
        e.faulty(0, "sn100", 4);
        e.fits(1, "y:0001");
        e.faulty(1, "y:00001", 6);
        e.faulty(1, "y:99999", 6);
        e.faulty(1, "y:123456789", 6);
        e.faulty(1, "y:g>12345?1", 8);
    }

    private static void faultAtSurplus(Edges e) {
        e.sentence("a letter that was there, a second s, a seventh p, a ninth d, the ; ahead of a 17th STEP, a seventh of ( [ ! in a "
            + "LAW at it.");
        e.faulty(0, "sn1n", 3);
        e.faulty(0, "sn1 n1", 4);
        e.faulty(0, "ps1b1s1;d", 5);
        e.faulty(0, "s;p;d;s", 6);
        e.faulty(0, "s;p;d; s", 7);
        e.faulty(0, "p;".repeat(6) + "  p;d", 14);
        e.faulty(0, "d;".repeat(8) + "  d;p", 18);
        e.faulty(0, "s;" + "p;".repeat(6) + "d;".repeat(8) + "d", 30);
        e.faulty(0, "s;" + "p;".repeat(6) + "d;".repeat(8) + "p", 30);
        e.faulty(0, "s;" + "p;".repeat(6) + "d;".repeat(8) + "s", 30);
        e.faulty(2, "n;".repeat(15) + "n  ; n", 33);
        e.faulty(2, "n;".repeat(15) + "d00 ;n", 34);
        e.faulty(1, "y:[[[[[[ [g]]]]]]]", 9);
        e.faulty(1, "y:!!!!!!!", 8);
    }

    private static void stepsThatAreNotThere(Edges e) {
        e.sentence("(What a STEP tells that is not there is no FAULT: the STEP can't be.)");
        String[] steps = {"d10", "d01", "d99", "s1", "s9", "a10", "a01", "a99"};
        for (String step : steps) {
            e.fits(2, step);
            Edges.Story story = Edges.both(Edges.town("p;d"), x -> Texts.tell(x, 2, "n;" + step));
            e.leaves("run of 'n;" + step + "'", story, x -> x.run(0, 0), 1);
            e.answers("perform of 'n;" + step + "'", story, x -> x.perform(0), 1);
        }
        Edges.Story there = Edges.both(Edges.town("p;d"), x -> Texts.tell(x, 2, "n;d00;s0;a00"));
        e.leaves("run of what is there", there, x -> x.run(0, 0), NONE);
    }

    private static void feed(Edges e) {
        e.sentence("Twenty bytes more come to the TAPE (of each number the highest first; bytes of 0 are left out): how many it has. "
            + "NONE: more than 240.");
        e.answers("nothing", x -> { }, x -> x.feed(0, 0, 0, 0, 0), 0);
        e.answers("twenty", x -> { }, x -> x.feed(-1, -1, -1, -1, -1), 20);
        e.answers("bytes of 0 between", x -> { }, x -> x.feed(0x01000000, 0x00020000, 0x00000300, 0x00000004, 0x01000001), 6);
        e.answers("the highest first", x -> x.feed(0x703B6400, 0, 0, 0, 0), x -> x.text(0), 1);
        e.answers("zeros among them", x -> x.feed(0x00700000, 0x0000003B, 0, 0x64000000, 0), x -> x.text(0), 1);
        e.answers("their order", x -> x.feed(0x70623132, 0x3B640000, 0, 0, 0), x -> x.text(0) + x.person(0, 0), 13);
        for (int bytes = 219; bytes <= 221; bytes++) {
            int had = bytes;
            Edges.Story story = x -> Texts.feed(x, " ".repeat(had));
            Edges.Call twenty = x -> x.feed(0x20202020, 0x20202020, 0x20202020, 0x20202020, 0x20202020);
            if (bytes <= 220) {
                e.answers(bytes + " and 20", story, twenty, bytes + 20);
            } else {
                e.leaves(bytes + " and 20", story, twenty, NONE);
                e.answers("19 more have room", story, x -> twenty.on(x) + x.feed(0x20202020, 0x20202020, 0x20202020, 0x20202020, 0x00202020), 239);
            }
        }
        Edges.Story full = x -> Texts.feed(x, "y:g" + " ".repeat(237));
        e.leaves("240 and 1", full, x -> x.feed(0, 0, 0, 0, 1), NONE);
        e.leaves("240 and 1, ahead", full, x -> x.feed(0x70000000, 0, 0, 0, 0), NONE);
        e.leaves("240 and none", full, x -> x.feed(0, 0, 0, 0, 0), 240);
        e.answers("240 are read", full, x -> x.text(1), 0);
    }

    private static void end(Edges e) {
        e.sentence("`boolean end(int n)`: The TAPE has its first n bytes alone. False: n.");
        Edges.Story fed = Edges.both(Edges::busy, x -> {
            x.end(0);
            Texts.feed(x, "n;s1;x");
        });
        e.leaves("end(6) of six", fed, x -> Edges.bit(x.end(6)), 1);
        e.leaves("end(7) of six", fed, x -> Edges.bit(x.end(7)), 0);
        e.leaves("end(-1)", fed, x -> Edges.bit(x.end(-1)), 0);
        e.leaves("end, far", fed, x -> Edges.bit(x.end(FAR)), 0);
        e.leaves("end, deep", fed, x -> Edges.bit(x.end(DEEP)), 0);
        e.leaves("end(240) of six", fed, x -> Edges.bit(x.end(240)), 0);
        e.answers("end(5)", fed, x -> Edges.bit(x.end(5)) * 100 + x.count(4) * 10 + x.fault(2), 155);
        e.answers("end(4)", fed, x -> Edges.bit(x.end(4)) * 100 + x.count(4) * 10 + x.fault(2), 139);
        e.answers("end(1)", fed, x -> Edges.bit(x.end(1)) * 100 + x.count(4) * 10 + x.fault(2), 109);
        e.answers("end(0)", fed, x -> Edges.bit(x.end(0)) * 100 + x.count(4) * 10 + x.fault(2), 100);
        e.answers("what was cut off is gone", fed, x -> Edges.bit(x.end(4)) + Edges.bit(x.end(5)) + x.count(4), 5);
        e.leaves("end(0) of none", x -> { }, x -> Edges.bit(x.end(0)), 1);
        e.leaves("end(1) of none", x -> { }, x -> Edges.bit(x.end(1)), 0);
    }

    private static void fault(Edges e) {
        e.sentence("The FAULT of the TAPE as a TOWN (0), a LAW (1), a WEEK (2). NONE: none. -2: no such sort.");
        Edges.Story empty = Edges.both(Edges::busy, x -> x.end(0));
        for (int sort : new int[] {DEEP, -2, -1, 3, 4, FAR}) {
            e.leaves("fault(" + sort + ")", Edges::busy, x -> x.fault(sort), -2);
            e.leaves("fault(" + sort + ") of none", empty, x -> x.fault(sort), -2);
        }
        for (int sort = 0; sort < 3; sort++) {
            int asked = sort;
            e.leaves("fault(" + sort + ") of none", empty, x -> x.fault(asked), 0);
        }
        String[] texts = {"p;d", "y:g", "n;n"};
        for (int sort = 0; sort < 3; sort++) {
            for (int other = 0; other < 3; other++) {
                int asked = sort;
                String text = texts[other];
                Edges.Story fed = Edges.both(empty, x -> Texts.feed(x, text));
                e.leaves("fault(" + sort + ") of " + text, fed, x -> x.fault(asked), sort == other ? NONE : 0);
            }
        }
    }

    private static void text(Edges e) {
        e.sentence("`int text(int sort)`: The TAPE (empty then) is the TOWN (DAY 0, nobody HAS a DEED; all that was of another one, "
            + "SEEN, too, is gone but LAWS, which holds, WEEKS, RUMOUR): how many PEOPLE; a LAW, a WEEK: its number. NONE: a FAULT, no "
            + "such sort, there are four.");
        for (int sort : new int[] {DEEP, -2, -1, 3, FAR}) {
            e.leaves("text(" + sort + ")", Edges::busy, x -> x.text(sort), NONE);
        }
        e.leaves("a week as a town", Edges::busy, x -> x.text(0), NONE);
        e.leaves("a week as a law", Edges::busy, x -> x.text(1), NONE);
        e.answers("a week", Edges::busy, x -> x.text(2), 1);
        e.answers("a second time", Edges::busy, x -> x.text(2) * 10 + x.text(2), 9);
        Edges.Story anew = Edges.both(Edges::busy, x -> {
            x.law(1);
            Texts.tell(x, 0, "sc7;d;pb3;p;pb1;p");
        });
        int[] counts = {4, 1, 2, 1, 0, 1, 0, 7, 0, 0, 0, 6, 0, 0, 0};
        for (int what = 0; what < counts.length; what++) {
            int asked = what;
            e.answers("count(" + what + ") of another town", anew, x -> x.count(asked), counts[what]);
        }
        e.answers("nobody has a deed", anew, x -> x.owners(0), 0);
        e.answers("nobody went", anew, x -> x.person(0, 4) + x.person(1, 4) + x.person(2, 4), 0);
        e.answers("nobody was shaved", anew, x -> x.all(3) + x.person(2, 3), 0);
        e.leaves("no image", anew, x -> x.back(), NONE);
        e.leaves("nothing to undo", anew, x -> x.undo(), NONE);
        e.leaves("no log", anew, x -> x.log(0, 0), NONE);
        e.answers("the law that holds reads", anew, x -> x.skin(0, 1), 1);
        e.answers("the week is there", anew, x -> x.step(0, 1, 1), 1);
        e.answers("all sets fit", anew, x -> x.sets(0, NONE) + x.sets(1, NONE), 4);
        Edges.Story same = Edges.both(Edges::busy, x -> Texts.tell(x, 0, Edges.TOWN));
        e.leaves("the same town told again is another one", same, x -> x.back(), NONE);
        e.answers("with its beards as told", same, x -> x.person(0, 0) * 100 + x.person(1, 0) * 10 + x.person(2, 0), 409);
    }

    /** What was refused, or only looked at, leaves nothing in the text that is told then. */
    private static void textBehindAnother(Edges e) {
        String[] towns = {"sn9c99;pb9s9w6;pb9s9w6;dk9h9l9;dk9h9l9;x", "sn9c99;pb9s9w6;pb9s9w6;dk9h9l9;dk9h9l9"};
        String[] laws = {"y:n=0?9;y:8;x", "y:n=0?9;y:8", "y:1;y:8", "y:0-9+[1*2]-3;".repeat(17) + "x"};
        String[] weeks = {"d98;a76;s5;d43;x", "d98;a76;s5;d43"};
        for (String other : towns) {
            GuiltyShave x = lookedAt(0, other);
            e.due("a town behind '" + other + "'", Texts.tell(x, 0, "p;d"), 1);
            e.due("its person", x.person(0, 0) * 100 + x.person(0, 1) * 10 + x.person(0, 2), 30);
            e.due("its deed", x.deed(0, 0) * 100 + x.deed(0, 1) * 10 + x.deed(0, 2), 325);
            e.due("its coins", x.count(7), 20);
            e.due("its nick", costOfNick(x), 1);
            e.due("no more of them", x.count(0) * 10 + x.count(1), 11);
        }
        for (String other : laws) {
            GuiltyShave x = lookedAt(1, other);
            Texts.tell(x, 0, "p;d");
            e.due("a law behind '" + other + "'", Texts.tell(x, 1, "y:n=1?7"), 0);
            e.due("it holds", Edges.bit(x.law(0)), 1);
            e.due("it reads nothing", x.skin(0, 1), 0);
            x.commit(0, 0);
            e.due("it reads its own", x.skin(0, 1), 7);
        }
        GuiltyShave sum = lookedAt(1, "y:!g=1?1");
        Texts.tell(sum, 0, "p;d");
        Edges.hold(sum, "y:1+2");
        e.due("a sum behind a condition", sum.skin(0, 1), 3);
        for (String other : weeks) {
            GuiltyShave x = lookedAt(2, other);
            e.due("a week behind '" + other + "'", Texts.tell(x, 2, "n;s4;n"), 0);
            int[] due = {3, NONE, NONE, 1, 4, NONE, 3, NONE, NONE, HIDDEN};
            for (int i = 0; i < due.length; i++) {
                e.due("step(0, " + i / 3 + ", " + i % 3 + ")", x.step(0, i / 3, i % 3), due[i]);
            }
        }
    }

    private static GuiltyShave lookedAt(int sort, String text) {
        GuiltyShave x = new GuiltyShave();
        Texts.feed(x, text);
        x.fault(sort);
        x.fault(sort);
        return x;
    }

    private static void law(Edges e) {
        e.sentence("`boolean law(int law)`: The LAW that holds (NONE: none). False: no such one.");
        e.leaves("law(0) of none", Edges.town("p;d"), x -> Edges.bit(x.law(0)), 0);
        e.leaves("law(NONE) of none", Edges.town("p;d"), x -> Edges.bit(x.law(NONE)), 1);
        Edges.Story held = Edges.both(Edges::busy, x -> x.law(1));
        for (int law : new int[] {DEEP, -3, -2, 2, 3, 4, FAR}) {
            e.leaves("law(" + law + ")", Edges::busy, x -> Edges.bit(x.law(law)), 0);
            e.leaves("law(" + law + ") while one holds", held, x -> Edges.bit(x.law(law)), 0);
        }
        e.leaves("the one that holds", held, x -> Edges.bit(x.law(1)), 1);
        e.leaves("none, while none holds", Edges::busy, x -> Edges.bit(x.law(NONE)), 1);
        for (int law = NONE; law < 2; law++) {
            int told = law;
            e.answers("law(" + law + ")", held, x -> Edges.bit(x.law(told)) * 10 + x.count(5), 10 + law);
        }
        // 0 has two deeds, guilt 9, shame 3, beard 5; on DAY 1, never shaved.
        e.answers("read by none", held, x -> Edges.bit(x.law(NONE)) + x.skin(0, 1), 7);
        e.answers("read by 0", held, x -> Edges.bit(x.law(0)) + x.skin(0, 1), 8);
        e.answers("read by 1", held, x -> Edges.bit(x.law(1)) + x.skin(0, 1), 3);
    }

    private static void step(Edges e) {
        e.sentence("A STEP of a WEEK: 0 what (0 d, 1 s, 2 a, 3 n), 1 its digit (NONE), 2 the second one (NONE). HIDDEN: no such ones.");
        Edges.Story told = x -> {
            Texts.tell(x, 2, "d90;s8;a07;n");
            Texts.tell(x, 2, "n");
        };
        int[][] steps = {{0, 9, 0}, {1, 8, NONE}, {2, 0, 7}, {3, NONE, NONE}};
        for (int i = 0; i < 4; i++) {
            for (int what = 0; what < 3; what++) {
                int asked = i;
                int part = what;
                e.leaves("step(0, " + i + ", " + what + ")", told, x -> x.step(0, asked, part), steps[i][what]);
            }
        }
        int[][] wrongs = {{-1, 0, 0}, {2, 0, 0}, {4, 0, 0}, {FAR, 0, 0}, {DEEP, 0, 0}, {0, -1, 0}, {0, 4, 0}, {1, 1, 0}, {0, FAR, 0},
            {0, DEEP, 0}, {0, 0, -1}, {0, 0, 3}, {0, 0, FAR}, {0, 0, DEEP}, {0, 16, 0}};
        for (int[] w : wrongs) {
            e.leaves("step(" + w[0] + ", " + w[1] + ", " + w[2] + ")", told, x -> x.step(w[0], w[1], w[2]), HIDDEN);
        }
        e.leaves("step(0, 0, 0) of none", x -> { }, x -> x.step(0, 0, 0), HIDDEN);
    }
}
