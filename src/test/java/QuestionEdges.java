import java.util.ArrayList;
import java.util.List;

/** The edges of questions: part 3 of the terms, promises 23 to 38 and 41. */
final class QuestionEdges {
    private static final int NONE = Edges.NONE;
    private static final int HIDDEN = Edges.HIDDEN;
    private static final int FAR = Integer.MAX_VALUE;
    private static final int DEEP = Integer.MIN_VALUE;
    private static final int PARTS = 1000000000;

    /** None of these people and deeds is there, in a TOWN of three and three. */
    private static final int[] NOBODY = {DEEP, -2, -1, 3, 6, 8, 32, FAR};

    private QuestionEdges() {
    }

    static void tell(Edges e) {
        least(e);
        cover(e);
        soon(e);
        clean(e);
        trade(e);
        seen(e);
        sets(e);
        ask(e);
        gameInBounds(e);
        gameWithoutGuilt(e);
        gains(e);
        rests(e);
        chances(e);
        oddsAreCut(e);
        shares(e);
        people(e);
        deeds(e);
        bits(e);
        wishes(e);
        served(e);
        refusedSkins(e);
        refusedLeast(e);
        refusedCover(e);
        refusedDays(e);
        refusedTrades(e);
        refusedSights(e);
        refusedGames(e);
        refusedParts(e);
        refusedOwners(e);
        refusedAll(e);
        refusedCounts(e);
    }

    private static Edges.Story lawful(String town, String law) {
        return x -> {
            Texts.tell(x, 0, town);
            Edges.hold(x, law);
        };
    }

    // ---- part 3

    /** Which DEEDS, and their HARM. */
    private static void leastIs(Edges e, String name, Edges.Story story, int bits, int harm) {
        e.leaves(name + ": these", story, x -> x.least(0, 0), bits);
        e.leaves(name + ": harm", story, x -> x.least(0, 1), harm);
    }

    private static void least(Edges e) {
        e.sentence("with the least HARM together (of several the fewest, then the least bits; GUILTY already: none, 0): these; HARM.");
        leastIs(e, "two of less harm", Edges.town("ps3;dk4h3;dk2h1;dk2h1"), 6, 2);
        leastIs(e, "alike in harm: the fewest", Edges.town("ps3;dk2h1;dk2h1;dk4h2"), 4, 2);
        leastIs(e, "alike in harm and number: the least bits", Edges.town("ps3;dk4h2;dk4h2;dk9h2"), 1, 2);
        leastIs(e, "of pairs", Edges.town("ps3;dk2h1;dk2h1;dk2h1"), 3, 2);
        leastIs(e, "without harm, the fewest", Edges.town("ps3;dk1h0;dk4h0"), 2, 0);
        leastIs(e, "guilt as shame is not enough", Edges.town("ps3;dk3h0;dk4h9"), 2, 9);
        leastIs(e, "the last deed alone", Edges.town("ps8" + ";dk1h9".repeat(7) + ";dk9h1"), 128, 1);
        leastIs(e, "all eight", Edges.town("ps7" + ";dk1h9".repeat(8)), 255, 72);
        leastIs(e, "all eight are too few", Edges.town("ps8" + ";dk1h9".repeat(8)), NONE, NONE);
        Edges.Story has = Edges.both(Edges.town("ps5;dk4h0;dk2h7;dk3h7"), x -> x.commit(0, 0));
        leastIs(e, "what he has is not among them", has, 2, 7);
        leastIs(e, "guilty already", Edges.both(has, x -> x.commit(0, 1)), 0, 0);
        leastIs(e, "guilty by a law already", lawful("p;d", "y:1"), 0, 0);
        leastIs(e, "never guilty", lawful("p;d", "y:0"), NONE, NONE);
        leastIs(e, "the only one", lawful("p;dh5", "y:n=1?1"), 1, 5);
        leastIs(e, "just two", lawful("p;dh5;dh4;dh3", "y:n=2?1"), 6, 7);
        Edges.Story two = Edges.both(lawful("p;dh5;dh4;dh3", "y:n=1?1"), x -> {
            x.commit(0, 0);
            x.commit(0, 1);
        });
        leastIs(e, "he has too many", two, NONE, NONE);
    }

    private static void coverIs(Edges e, String name, Edges.Story story, int people, int[] due) {
        e.leaves(name + ": these", story, x -> x.cover(people, 0), due[0]);
        e.leaves(name + ": harm", story, x -> x.cover(people, 1), due[1]);
    }

    private static void cover(Edges e) {
        e.sentence("with the least HARM together, of a DEED as often as one of them does it (of several the fewest DEEDS, then the least "
            + "bits).");
        coverIs(e, "by each of two", Edges.town("ps3;ps3;dk4h3;dk4h2"), 3, new int[] {2, 4});
        coverIs(e, "the fewest", Edges.town("ps3;ps3;dk2h1;dk2h1;dk4h2"), 3, new int[] {4, 4});
        coverIs(e, "the least bits", Edges.town("ps3;ps3;dk4h2;dk4h2"), 3, new int[] {1, 4});
        coverIs(e, "one of them needs more", Edges.town("ps3;ps6;dk4h2;dk5h2"), 3, new int[] {3, 8});
        Edges.Story one = Edges.both(Edges.town("ps3;ps3;dk4h3;dk4h2"), x -> x.commit(0, 0));
        coverIs(e, "who has it does it not again: 3 by one, or 2 by both", one, 3, new int[] {1, 3});
        coverIs(e, "the guilty alone", one, 1, new int[] {0, 0});
        coverIs(e, "the other alone", one, 2, new int[] {2, 2});
        Edges.Story both = Edges.both(one, x -> x.commit(1, 0));
        coverIs(e, "all are guilty", both, 3, new int[] {0, 0});
        coverIs(e, "by none for one of them", Edges.town("ps0;ps9;dk9"), 3, new int[] {NONE, NONE});
        coverIs(e, "for the other", Edges.town("ps0;ps9;dk9"), 1, new int[] {1, 2});
        coverIs(e, "all six and all eight", Edges.town("ps7;".repeat(6) + "dk1h9" + ";dk1h9".repeat(7)), 63, new int[] {255, 432});
        // A DEED that the one HAS and the other has not makes the other guilty, but one too many the first not.
        Edges.Story apart = Edges.both(lawful("p;p;dh1;dh1;dh1", "y:n=2?1"), x -> {
            x.commit(0, 2);
        });
        coverIs(e, "just two for each", apart, 3, new int[] {5, 3});
    }

    private static void soon(Edges e) {
        e.sentence("SOON of a PERSON: in how many DAYS (0 .. 60) he is not GUILTY first, nobody doing a thing.");
        int[] days = {0, 1, 2, 30, 59, 60};
        for (int day : days) {
            e.leaves("soon by " + day + "-b", lawful("p;d", "y:" + day + "-b"), x -> x.soon(0), day);
        }
        e.leaves("soon by 61-b", lawful("p;d", "y:61-b"), x -> x.soon(0), NONE);
        e.leaves("never", lawful("p;d", "y:1"), x -> x.soon(0), NONE);
        e.leaves("the first such day, not the last", lawful("p;d", "y:b=4|b=9?0;y:1"), x -> x.soon(0), 4);
        e.leaves("now, though not later", lawful("p;d", "y:b"), x -> x.soon(0), 0);
        e.leaves("beards stay at 99", lawful("pb60;d", "y:100-b"), x -> x.soon(0), NONE);
        e.leaves("when it is 99", lawful("pb60;d", "y:99-b"), x -> x.soon(0), 39);
        e.leaves("it is 99", lawful("pb99;d", "y:99-b"), x -> x.soon(0), 0);
        for (int lasts = 1; lasts <= 9; lasts++) {
            Edges.Story story = Edges.both(Edges.town("ps2;dl" + lasts), x -> x.commit(0, 0));
            e.leaves("soon by a deed of " + lasts, story, x -> x.soon(0), lasts);
        }
        for (int weekday = 0; weekday < 7; weekday++) {
            int due = weekday == 6 ? 0 : 6 - weekday;
            int passed = weekday;
            e.leaves("day 6 of the week from " + weekday, Edges.both(lawful("p;d", "y:6-w"), x -> Edges.pass(x, passed)), x -> x.soon(0), due);
        }
        e.leaves("how often he was shaved stays", Edges.both(lawful("p;d", "y:t<1?1;y:5-b-t"), x -> x.shave(0)), x -> x.soon(0), 4);
    }

    private static void clean(Edges e) {
        e.sentence("CLEAN: in how many DAYS (0 .. 9) nobody HAS any DEED.");
        e.leaves("nobody has any", Edges.town("p;p;dl9;dl4"), x -> x.clean(), 0);
        for (int lasts = 1; lasts <= 9; lasts++) {
            int due = lasts;
            Edges.Story story = Edges.both(Edges.town("p;p;dl1;dl" + lasts), x -> {
                x.commit(0, 0);
                x.commit(1, 1);
            });
            e.leaves("the longest of " + lasts, story, x -> x.clean(), due);
            e.leaves("a day later", Edges.both(story, x -> x.day()), x -> x.clean(), due - 1);
        }
    }

    private static void trade(Edges e) {
        e.sentence("TRADE of two: the DEED (of several the lowest) which, SOLD by the first to the other now, leaves both GUILTY (COINS "
            + "do not matter).");
        Edges.Story both = Edges.both(Edges.town("sc0;ps3;ps3;dk4;dk4;dk4"), x -> {
            x.commit(0, 0);
            x.commit(0, 1);
        });
        e.leaves("the lowest, without a coin", both, x -> x.bargain(0, 1), 0);
        e.leaves("the other has it", Edges.both(both, x -> x.commit(1, 0)), x -> x.bargain(0, 1), 1);
        e.leaves("the other has both", Edges.both(both, x -> {
            x.commit(1, 0);
            x.commit(1, 1);
        }), x -> x.bargain(0, 1), NONE);
        e.leaves("a third one of his", Edges.both(both, x -> {
            x.commit(0, 2);
            x.commit(1, 0);
            x.commit(1, 1);
        }), x -> x.bargain(0, 1), 2);
        e.leaves("the other way he has none", both, x -> x.bargain(1, 0), NONE);
        Edges.Story two = x -> {
            x.commit(0, 0);
            x.commit(0, 1);
        };
        e.leaves("guilt as shame leaves him not guilty", Edges.both(Edges.town("ps4;ps3;dk4;dk4"), two), x -> x.bargain(0, 1), NONE);
        e.leaves("guilt as shame leaves the other not guilty", Edges.both(Edges.town("ps3;ps4;dk4;dk4"), two), x -> x.bargain(0, 1), NONE);
        e.leaves("one above is enough", Edges.both(Edges.town("ps3;ps4;dk4;dk5"), two), x -> x.bargain(0, 1), 1);
        e.leaves("his last one", Edges.both(Edges.town("ps0;ps0;d"), x -> x.commit(0, 0)), x -> x.bargain(0, 1), NONE);
        e.leaves("his last one, by a law", Edges.both(lawful("ps0;ps0;d", "y:1"), x -> x.commit(0, 0)), x -> x.bargain(0, 1), 0);
    }

    private static void seen(Edges e) {
        e.sentence("SEEN (10 at most): a PERSON, as told, on DAY 0, never SHAVED, with a BEARD of b (0 .. 99) DAYS was GUILTY, or was not.");
        GuiltyShave x = Edges.made("p;p;d");
        for (int i = 1; i <= 10; i++) {
            e.due("seen", x.seen(i % 2, 9 * i, i % 3 == 0), i);
            e.due("count(12)", x.count(12), i);
        }
        Edges.Story ten = y -> {
            Texts.tell(y, 0, "p;p;d");
            for (int i = 0; i < 10; i++) {
                y.seen(i / 5, i, false);
            }
        };
        e.leaves("an eleventh", ten, y -> y.seen(0, 0, true), NONE);
        e.leaves("an eleventh of the other", ten, y -> y.seen(1, 99, false), NONE);
        e.answers("the tenth counts", Edges.both(ten, y -> Edges.hold(y, "y:b=9?1")), y -> y.sets(1, NONE) * 10 + y.sets(0, NONE), 2);
        for (int beard : new int[] {0, 1, 98, 99}) {
            Edges.Story law = lawful("p;d", "y:b=" + beard + "?n");
            e.answers("seen with " + beard, law, y -> y.seen(0, beard, true), 1);
            e.answers("sets then", law, y -> y.seen(0, beard, true) * 10 + y.sets(0, NONE), 11);
        }
        for (int beard : new int[] {DEEP, -1, 100, 101, FAR}) {
            e.leaves("seen with " + beard, Edges::busy, y -> y.seen(0, beard, true), NONE);
        }
        // On DAY 0 and never SHAVED, whatever DAY it is and how often he was.
        Edges.Story later = Edges.both(lawful("p;d", "y:w*9+t*9+n"), y -> {
            y.commit(0, 0);
            y.shave(0);
            y.day();
            y.day();
            y.seen(0, 0, false);
        });
        e.leaves("he is guilty now", later, y -> y.skin(0, 1), 28);
        e.leaves("only none fits", later, y -> y.sets(0, NONE) * 10 + y.sets(0, 0), 10);
    }

    private static void sets(Edges e) {
        e.sentence("SETS of a PERSON: DEEDS (bits, of all there are) that he may HAVE had so that all SEEN of him is so: how many, the i-th "
            + "(rising).");
        for (int deeds = 1; deeds <= 8; deeds++) {
            int all = 1 << deeds;
            Edges.Story story = Edges.town("p" + ";dk1".repeat(deeds));
            e.leaves("all of " + deeds, story, x -> x.sets(0, NONE), all);
            e.leaves("the first", story, x -> x.sets(0, 0), 0);
            e.leaves("the last", story, x -> x.sets(0, all - 1), all - 1);
            e.leaves("one beyond", story, x -> x.sets(0, all), NONE);
        }
        Edges.Story two = Edges.both(lawful("p;p;dk1;dk2;dk4", "y:g-b"), x -> {
            x.seen(0, 2, true);
            x.seen(0, 5, false);
            x.seen(1, 6, true);
        });
        int[] due = {3, 4, 5};
        e.leaves("guilt 3, 4, 5", two, x -> x.sets(0, NONE), 3);
        for (int i = 0; i < 3; i++) {
            int asked = i;
            e.leaves("sets(0, " + i + ")", two, x -> x.sets(0, asked), due[i]);
        }
        e.leaves("one beyond", two, x -> x.sets(0, 3), NONE);
        e.leaves("of the other only all", two, x -> x.sets(1, NONE) * 10 + x.sets(1, 0), 17);
        Edges.Story none = Edges.both(two, x -> x.seen(0, 5, true));
        e.leaves("nothing fits", none, x -> x.sets(0, NONE), 0);
        e.leaves("no first", none, x -> x.sets(0, 0), NONE);
        e.leaves("the other is not meant", none, x -> x.sets(1, NONE), 1);
        // By the LAW that holds when it is asked, not when it was SEEN.
        e.answers("by another law", two, x -> Edges.bit(x.law(NONE)) + x.sets(0, NONE), 1);
    }

    private static void ask(Edges e) {
        e.sentence("ASK of a PERSON: the BEARD (0 .. 99) with which GUILTY and not are least apart in number among these (of several the "
            + "least).");
        for (int beard : new int[] {0, 1, 50, 98, 99}) {
            e.leaves("ask by b=" + beard, lawful("p;d", "y:b=" + beard + "?n"), x -> x.ask(0), beard);
        }
        e.leaves("beyond 99 is none: all alike", lawful("p;d", "y:b=100?n"), x -> x.ask(0), 0);
        e.leaves("of several the least", lawful("p;d", "y:b=70|b=7?n"), x -> x.ask(0), 7);
        e.leaves("all alike", lawful("p;d", "y:1"), x -> x.ask(0), 0);
        e.leaves("without a law", Edges.town("p;dk4;dk4"), x -> x.ask(0), 0);
        e.leaves("the least apart, not the most guilty", lawful("p;dk1;dk2", "y:b=3?n;y:b=4?1;y:b=6?n-1"), x -> x.ask(0), 3);
        e.leaves("three to one either way", lawful("p;dk1;dk2", "y:b=5?n-1;y:b=6?n"), x -> x.ask(0), 5);
        e.leaves("two to two", lawful("p;dk1;dk2", "y:b=5?n-1;y:b=6?n;y:b=9?g-1"), x -> x.ask(0), 9);
        Edges.Story all = lawful("p;dk1;dk2;dk4", "y:g-b");
        e.leaves("four of eight", all, x -> x.ask(0), 3);
        Edges.Story four = Edges.both(all, x -> x.seen(0, 3, true));
        e.leaves("two of four", four, x -> x.ask(0), 5);
        Edges.Story one = Edges.both(four, x -> x.seen(0, 6, true));
        e.leaves("one is left", one, x -> x.ask(0), 0);
        e.leaves("nothing fits", Edges.both(one, x -> x.seen(0, 6, false)), x -> x.ask(0), NONE);
        String eight = "p" + ";dk9".repeat(8);
        e.leaves("all eight by their number", lawful(eight, "y:n=8&b=5?1"), x -> x.ask(0), 5);
        e.leaves("all eight by their guilt", lawful(eight, "y:g=72&b=6?1"), x -> x.ask(0), 6);
        e.leaves("seven of eight", lawful(eight, "y:n=7&b=7?1;y:n=8&b=6?1"), x -> x.ask(0), 7);
        e.leaves("none of eight", lawful(eight, "y:n=0&b=8?1"), x -> x.ask(0), 8);
        e.leaves("more than three of eight", lawful(eight, "y:b=2&n>4?1;y:b=3&n>3?1;y:b=4&n>2?1"), x -> x.ask(0), 2);
        Edges.Story some = Edges.both(lawful("p;dk1;dk1;dk1", "y:b=9?n;y:n=3&b=4?1;y:n=0&b=3?1"), x -> x.seen(0, 9, true));
        e.leaves("what does not fit does not count", some, x -> x.ask(0), 4);
        Edges.Story pairs = Edges.both(lawful("p;dk1;dk2;dk4", "y:b=9&n=2?1;y:b=5&g=3?1"), x -> x.seen(0, 9, true));
        e.leaves("one of three pairs", pairs, x -> x.ask(0), 5);
        Edges.Story again = Edges.both(lawful("p;dk1;dk2;dk4", "y:b=9?4-g;y:b=3&g=4?1;y:b=4&g=1?1"), x -> {
            x.ask(0);
            x.seen(0, 9, true);
        });
        e.leaves("what was asked before does not count", again, x -> x.ask(0), 4);
        Edges.Story another = Edges.both(lawful("p;dk1;dk1;dk1;dk9", "y:b=1&g>2?1;y:b=2&g>1?1"), x -> {
            x.ask(0);
            Texts.tell(x, 0, "p;dk3;dk4");
        });
        e.leaves("nothing stays of another town's", another, x -> x.ask(0), 1);
        e.leaves("on day 0, never shaved", Edges.both(lawful("p;d", "y:b=1?n*w;y:b=2?n*t;y:b=3?n"), x -> {
            x.commit(0, 0);
            x.day();
            x.day();
            x.day();
            x.shave(0);
        }), x -> x.ask(0), 3);
    }

    private static void gameInBounds(Edges e) {
        e.sentence("GAME of a PERSON and the barber: x (0 .. 3) how many faults he PRETENDS, y (0 .. 2) how close the barber LOOKS");
        Edges.Story story = lawful("p;d", "y:1");
        for (int pretence = 0; pretence <= 3; pretence++) {
            for (int look = 0; look <= 2; look++) {
                int a = pretence;
                int b = look;
                e.leaves("game(0, " + a + ", " + b + ", 0)", story, x -> x.game(0, a, b, 0), 6 - a);
                e.leaves("game(0, " + a + ", " + b + ", 1)", story, x -> x.game(0, a, b, 1), 5 - b);
            }
        }
        for (int out : new int[] {DEEP, -1, 4, 5, FAR}) {
            e.leaves("x " + out, story, x -> x.game(0, out, 0, 0), HIDDEN);
        }
        for (int out : new int[] {DEEP, -1, 3, 4, FAR}) {
            e.leaves("y " + out, story, x -> x.game(0, 0, out, 0), HIDDEN);
        }
    }

    private static void gameWithoutGuilt(Edges e) {
        e.sentence("READ as by GUILT more by 2 x less 3 y (0 at least; n, b, w, t as they are)");
        // By a LAW that wants just this GUILT, he has 6 less x if it is shown.
        for (int guilt = 0; guilt <= 9; guilt++) {
            String town = guilt == 0 ? "p;d" : "p;dk" + guilt;
            int had = guilt;
            for (int i = 0; i < 12; i++) {
                int a = i / 3;
                int b = i % 3;
                int shown = Math.max(0, guilt + 2 * a - 3 * b);
                Edges.Story story = Edges.both(lawful(town, "y:g=" + shown + "?1"), x -> {
                    if (had > 0) {
                        x.commit(0, 0);
                    }
                });
                e.answers("guilt " + guilt + " by x " + a + ", y " + b, story, x -> x.game(0, a, b, 0), 6 - a);
            }
        }
        e.answers("below 0 is 0", lawful("p;d", "y:0-g"), x -> x.game(0, 0, 2, 0), 0);
        e.answers("0 is 0", lawful("p;d", "y:g+1"), x -> x.game(0, 0, 2, 0), 6);
        Edges.Story other = Edges.both(lawful("pb7;dk9l9", "y:n=1&b=1&w=1&t=1&s=3?1"), x -> {
            Texts.tell(x, 1, "y:1");
            x.law(1);
            x.commit(0, 0);
            x.shave(0);
            x.day();
            x.law(0);
        });
        for (int i = 0; i < 12; i++) {
            int a = i / 3;
            int b = i % 3;
            e.answers("the others are as they are", other, x -> x.game(0, a, b, 0), 6 - a);
        }
    }

    private static void gains(Edges e) {
        e.sentence("what the PERSON has: 6, if he is GUILTY so, less x; what the barber has: 5, if he judges right (GUILTY so, and with x 0 "
            + "and y 0, too; or neither), less y.");
        Edges.Story guilty = Edges.both(Edges.town("ps3;dk4"), x -> x.commit(0, 0));
        int[][] person = {{6, 0, 0}, {5, -1, -1}, {4, 4, -2}, {3, 3, 3}};
        int[][] barber = {{5, -1, -2}, {5, -1, -2}, {5, 4, -2}, {5, 4, 3}};
        Edges.Story innocent = Edges.town("ps3;dk4");
        int[][] pretender = {{0, 0, 0}, {-1, -1, -1}, {4, -2, -2}, {3, -3, -3}};
        int[][] judge = {{5, 4, 3}, {5, 4, 3}, {0, 4, 3}, {0, 4, 3}};
        for (int i = 0; i < 12; i++) {
            int a = i / 3;
            int b = i % 3;
            e.leaves("the guilty, x " + a + ", y " + b, guilty, x -> x.game(0, a, b, 0), person[a][b]);
            e.leaves("his barber, x " + a + ", y " + b, guilty, x -> x.game(0, a, b, 1), barber[a][b]);
            e.leaves("the innocent, x " + a + ", y " + b, innocent, x -> x.game(0, a, b, 0), pretender[a][b]);
            e.leaves("his barber, x " + a + ", y " + b, innocent, x -> x.game(0, a, b, 1), judge[a][b]);
        }
    }

    private static void rests(Edges e) {
        e.sentence("RESTS: 10 times x and y by which neither has more by another of his own: how many, the i-th (rising).");
        e.leaves("the innocent: none", Edges.town("ps3;dk4"), x -> x.rests(0, NONE), 0);
        e.leaves("no first of none", Edges.town("ps3;dk4"), x -> x.rests(0, 0), NONE);
        Edges.Story guilty = Edges.both(Edges.town("ps3;dk4"), x -> x.commit(0, 0));
        e.leaves("the guilty: one", guilty, x -> x.rests(0, NONE), 1);
        e.leaves("it is 0", guilty, x -> x.rests(0, 0), 0);
        e.leaves("one beyond", guilty, x -> x.rests(0, 1), NONE);
        Edges.Story two = Edges.both(lawful("p;dk4", "y:g=4|g=0|g=3?1"), x -> x.commit(0, 0));
        e.leaves("two", two, x -> x.rests(0, NONE), 2);
        e.leaves("the first", two, x -> x.rests(0, 0), 0);
        e.leaves("the second", two, x -> x.rests(0, 1), 11);
        e.leaves("one beyond", two, x -> x.rests(0, 2), NONE);
        for (int i : new int[] {DEEP, -3, -2, 2, 12, FAR}) {
            e.leaves("rests(0, " + i + ")", two, x -> x.rests(0, i), NONE);
        }
        Edges.Story fooled = Edges.both(lawful("p;dk4", "y:g=6|g=3|g=0?1"), x -> x.commit(0, 0));
        e.leaves("a pretence that no look finds out", fooled, x -> x.rests(0, NONE) * 100 + x.rests(0, 0), 110);
        for (int guilt = 1; guilt <= 9; guilt++) {
            for (int want = 0; want <= 15; want++) {
                GuiltyShave x = Edges.made("p;dk" + guilt);
                Edges.hold(x, "y:g=" + want + "|g=" + want * 7 % 11 + "?1");
                x.commit(0, 0);
                List<Integer> due = restsOf(x);
                e.due("how many by " + guilt + " and " + want, x.rests(0, NONE), due.size());
                for (int i = 0; i <= due.size(); i++) {
                    e.due("rests(0, " + i + ")", x.rests(0, i), i < due.size() ? due.get(i) : NONE);
                }
            }
        }
    }

    /** By what game answers. */
    private static List<Integer> restsOf(GuiltyShave x) {
        List<Integer> rests = new ArrayList<>();
        for (int i = 0; i < 12; i++) {
            boolean rest = true;
            for (int j = 0; j < 4; j++) {
                rest &= x.game(0, j, i % 3, 0) <= x.game(0, i / 3, i % 3, 0);
            }
            for (int j = 0; j < 3; j++) {
                rest &= x.game(0, i / 3, j, 1) <= x.game(0, i / 3, i % 3, 1);
            }
            if (rest) rests.add(i / 3 * 10 + i % 3);
        }
        return rests;
    }

    private static Edges.Story allDeeds(String town, String law, int deeds) {
        return Edges.both(lawful(town + ";d".repeat(deeds), law), x -> {
            for (int deed = 0; deed < deeds; deed++) {
                x.commit(0, deed);
            }
        });
    }

    private static void chances(Edges e) {
        e.sentence("ODDS of a PERSON for a chance (0 .. 100): each DEED that he HAS is overlooked by chance, each by itself, by numbers");
        Edges.Story one = allDeeds("p", "y:n", 1);
        for (int chance = 0; chance <= 100; chance++) {
            int told = chance;
            e.answers("odds(0, " + chance + ")", one, x -> x.odds(0, told), PARTS - chance * (PARTS / 100));
        }
        for (int chance : new int[] {0, 1, 99, 100}) {
            e.leaves("odds(0, " + chance + ")", one, x -> x.odds(0, chance), PARTS - chance * (PARTS / 100));
        }
        for (int chance : new int[] {DEEP, -1, 101, 102, FAR}) {
            e.leaves("odds(0, " + chance + ")", one, x -> x.odds(0, chance), NONE);
        }
        for (int chance : new int[] {0, 50, 100}) {
            e.leaves("he has none and is guilty", lawful("p;d;d", "y:1"), x -> x.odds(0, chance), PARTS);
            e.leaves("he has none and is not", lawful("p;d;d", "y:n"), x -> x.odds(0, chance), 0);
        }
        e.leaves("never overlooked: as he is", allDeeds("p", "y:n=8?1", 8), x -> x.odds(0, 0), PARTS);
        e.leaves("always overlooked: as without any", allDeeds("p", "y:n=0?1", 8), x -> x.odds(0, 100), PARTS);
        e.leaves("what he has not is not overlooked", Edges.both(lawful("p;d;d;d", "y:n=0?1"), x -> x.commit(0, 1)),
            x -> x.odds(0, 50), PARTS / 2);
    }

    private static void oddsAreCut(Edges e) {
        e.sentence("of 10 to the 9 parts those by which he is GUILTY by the others (of each part chance 100ths, cut, overlooked; n: the "
            + "others).");
        e.leaves("four times 33 100ths come out even", allDeeds("p", "y:n=0?1", 4), x -> x.odds(0, 33), 11859210);
        e.leaves("a fifth is cut", allDeeds("p", "y:n=0?1", 5), x -> x.odds(0, 33), 3913539);
        e.leaves("what is cut is with the noticed", allDeeds("p", "y:n>0?1", 5), x -> x.odds(0, 33), PARTS - 3913539);
        e.leaves("one part in the end", allDeeds("p", "y:n=0?1", 4), x -> x.odds(0, 1), 10);
        e.leaves("none in the end", allDeeds("p", "y:n=0?1", 5), x -> x.odds(0, 1), 0);
        e.leaves("n: the others", allDeeds("p", "y:n=1?1", 2), x -> x.odds(0, 50), PARTS / 2);
        e.leaves("g: the others", allDeeds("p", "y:g=3?1", 2), x -> x.odds(0, 50), PARTS / 2);
        for (int chance : new int[] {1, 7, 33, 50, 77, 99}) {
            for (int deed = 0; deed < 8; deed++) {
                // Eight DEEDS of their own weight: GUILT tells which one alone was noticed, or was not.
                GuiltyShave x = Edges.made("p;dk1;dk2;dk3;dk4;dk5;dk6;dk7;dk9");
                int[] heavy = {1, 2, 3, 4, 5, 6, 7, 9};
                for (int d = 0; d < 8; d++) {
                    x.commit(0, d);
                }
                Edges.hold(x, "y:n=1&g=" + heavy[deed] + "?1");
                e.due("only " + deed + " noticed by " + chance, x.odds(0, chance), partNoticed(chance, 1 << deed));
                Edges.hold(x, "y:n=7&g=" + (37 - heavy[deed]) + "?1");
                e.due("only " + deed + " overlooked by " + chance, x.odds(0, chance), partNoticed(chance, 255 & ~(1 << deed)));
            }
        }
    }

    private static long partNoticed(int chance, int noticed) {
        long part = PARTS;
        for (int deed = 0; deed < 8; deed++) {
            long overlooked = (part * chance - part * chance % 100) / 100;
            part = (noticed & 1 << deed) != 0 ? part - overlooked : overlooked;
        }
        return part;
    }

    private static void shares(Edges e) {
        e.sentence("SHARES of c (0 .. 999) by GUILT: for a PERSON c times his by that of all, cut (none: 0).");
        Edges.Story story = Edges.both(Edges.town("p;p;p;dk2;dk5"), x -> {
            x.commit(0, 0);
            x.commit(1, 1);
        });
        for (int c : new int[] {DEEP, -1, 1000, 1001, FAR}) {
            e.leaves("shares(0, " + c + ")", story, x -> x.shares(0, c), NONE);
        }
        for (int c : new int[] {0, 1, 3, 4, 6, 7, 8, 998, 999}) {
            e.leaves("shares(0, " + c + ")", story, x -> x.shares(0, c), c * 2 / 7);
            e.leaves("shares(1, " + c + ")", story, x -> x.shares(1, c), c * 5 / 7);
            e.leaves("shares(2, " + c + ")", story, x -> x.shares(2, c), 0);
        }
        for (int c : new int[] {0, 1, 999}) {
            e.leaves("none has guilt", Edges.town("p;p;d"), x -> x.shares(0, c), 0);
        }
        e.leaves("all of it", Edges.both(Edges.town("p;p;d"), x -> x.commit(1, 0)), x -> x.shares(1, 999), 999);
        GuiltyShave most = Edges.made("p;p;p;p;p;p" + ";dk9".repeat(8));
        for (int i = 0; i < 48; i++) {
            most.commit(i / 8, i % 8);
        }
        e.due("a sixth of 999", most.shares(5, 999), 166);
    }

    private static void people(Edges e) {
        e.sentence("LONGEST: the PERSON with the longest BEARD; WORST: with most GUILT; BOLDEST: with the least SHAME; FAVOURITE: most often "
            + "SHAVED (of several the lowest, all).");
        e.leaves("longest of alike", Edges.town("pb5;pb5;pb5;d"), x -> x.all(0), 0);
        e.leaves("longest, the last", Edges.town("pb5;pb5;pb6;d"), x -> x.all(0), 2);
        e.leaves("longest, the lower of two", Edges.town("pb5;pb6;pb6;d"), x -> x.all(0), 1);
        e.leaves("longest at 99", Edges.both(Edges.town("pb98;pb99;d"), x -> x.day()), x -> x.all(0), 0);
        Edges.Story town = Edges.town("p;p;p;dk4;dk3;dk1");
        e.leaves("worst of none", town, x -> x.all(1), 0);
        e.leaves("worst of alike", Edges.both(town, x -> {
            x.commit(2, 0);
            x.commit(1, 1);
            x.commit(1, 2);
        }), x -> x.all(1), 1);
        e.leaves("worst, the last", Edges.both(town, x -> {
            x.commit(2, 0);
            x.commit(1, 1);
        }), x -> x.all(1), 2);
        e.leaves("boldest of alike", Edges.town("ps4;ps4;d"), x -> x.all(2), 0);
        e.leaves("boldest, the last", Edges.town("ps4;ps4;ps0;d"), x -> x.all(2), 2);
        e.leaves("boldest, the lower of two", Edges.town("ps4;ps2;ps2;d"), x -> x.all(2), 1);
        Edges.Story shaved = lawful("p;p;p;d", "y:1");
        e.leaves("favourite of none", shaved, x -> x.all(3), 0);
        e.leaves("favourite, the last", Edges.both(shaved, x -> x.shave(2)), x -> x.all(3), 2);
        e.leaves("favourite, the lower of two", Edges.both(shaved, x -> {
            x.shave(2);
            x.shave(1);
        }), x -> x.all(3), 1);
        e.leaves("nicks do not count", Edges.both(lawful("p;p;d", "y:0"), x -> x.shave(1)), x -> x.all(3), 0);
        e.leaves("of six", Edges.town("p;p;p;p;p;pb1s0;d"), x -> x.all(0) * 10 + x.all(2), 55);
    }

    private static void deeds(Edges e) {
        e.sentence("HEAVIEST: the DEED; CHEAPEST: the DEED with the least HARM (of several the lowest, all).");
        e.leaves("of one", Edges.town("p;d"), x -> x.all(4) * 10 + x.all(5), 0);
        e.leaves("of alike", Edges.town("p;d;d;d"), x -> x.all(4) * 10 + x.all(5), 0);
        e.leaves("the last", Edges.town("p;dk5h5;dk5h5;dk6h4"), x -> x.all(4) * 10 + x.all(5), 22);
        e.leaves("the lower of two", Edges.town("p;dk5h5;dk6h4;dk6h4"), x -> x.all(4) * 10 + x.all(5), 11);
        e.leaves("of eight", Edges.town("p;d;d;d;d;d;d;d;dk9h0"), x -> x.all(4) * 10 + x.all(5), 77);
        e.leaves("apart", Edges.town("p;dk9h9;dk1h0"), x -> x.all(4) * 10 + x.all(5), 1);
    }

    private static void bits(Edges e) {
        e.sentence("GUILTY: PEOPLE (bits); SMOOTH: bits; INNOCENT: who HAVE no DEED (bits).");
        Edges.Story six = Edges.town("s;ps0;ps3;ps2;pb1;p;pb1;dl1;dl2");
        e.leaves("nobody is guilty", six, x -> x.all(6), 0);
        e.leaves("smooth", six, x -> x.all(7), 0b010111);
        e.leaves("all are innocent", six, x -> x.all(8), 63);
        Edges.Story did = Edges.both(six, x -> {
            for (int p = 0; p < 6; p++) {
                x.commit(p, p % 2);
            }
        });
        e.leaves("guilt 3 is above 0 and 2", did, x -> x.all(6), 0b000101);
        e.leaves("nobody is innocent", did, x -> x.all(8), 0);
        Edges.Story later = Edges.both(did, x -> x.day());
        e.leaves("on the next day their deeds are gone", later, x -> x.all(6), 0);
        e.leaves("they are innocent", later, x -> x.all(8), 0b010101);
        e.leaves("nobody is smooth", later, x -> x.all(7), 0);
        e.leaves("all six are guilty", lawful("p;p;p;p;p;p;d", "y:1"), x -> x.all(6), 63);

        e.sentence("LEFT of a DEED for a PERSON: how many DAYS. WHO HAS a DEED: PEOPLE (bits).");
        e.leaves("who has the first", did, x -> x.owners(0), 0b010101);
        e.leaves("who has the second", did, x -> x.owners(1), 0b101010);
        e.leaves("the first is gone", later, x -> x.owners(0), 0);
        e.leaves("the second is not", later, x -> x.owners(1) * 10 + x.left(5, 1), 0b101010 * 10 + 1);
    }

    private static void wishes(Edges e) {
        e.sentence("DAYS to the WISH of a PERSON (0 .. 6).");
        for (int wish = 0; wish <= 6; wish++) {
            GuiltyShave x = Edges.made("pw" + wish + ";d");
            for (int day = 0; day < 22; day++) {
                int due = 0;
                while ((day + due) % 7 != wish) {
                    due++;
                }
                e.due("wish " + wish + " on day " + day, x.wish(0), due);
                x.day();
            }
        }
        e.leaves("on day 999, which is 5", Edges.both(Edges.town("pw5;pw4;d"), x -> Edges.pass(x, 999)), x -> x.wish(0) * 10 + x.wish(1), 6);
    }

    private static void served(Edges e) {
        e.sentence("SERVED: how many PEOPLE would be GUILTY on the next day of their WISH (this DAY, too), nobody doing a thing till then.");
        e.leaves("nobody", Edges.town("p;d"), x -> x.all(9), 0);
        for (int wish = 0; wish <= 6; wish++) {
            for (int lasts : new int[] {1, 2, 6, 7}) {
                int due = lasts > wish ? 1 : 0;
                Edges.Story story = Edges.both(Edges.town("ps0w" + wish + ";ps9w0;dl" + lasts), x -> x.commit(0, 0));
                e.leaves("a wish in " + wish + ", a deed of " + lasts, story, x -> x.all(9), due);
            }
        }
        Edges.Story weekday = lawful("pw0;pw1;pw2;pw3;pw4;pw5;d", "y:w");
        e.leaves("guilty on all days but the first", weekday, x -> x.all(9), 5);
        e.leaves("a day later the same", Edges.both(weekday, x -> x.day()), x -> x.all(9), 5);
        e.leaves("beards grow till then", lawful("pw0;pw1;pw2;pw3;d", "y:b-1"), x -> x.all(9), 2);
        e.leaves("and stay at 99", lawful("pb99w0;pb99w6;pb93w6;pb92w6;d", "y:b-98"), x -> x.all(9), 3);
    }

    // ---- what the promises refuse

    private static void refusedSkins(Edges e) {
        e.sentence("`int skin(int person, int what)`: GUILT (0), READ (1), whether GUILTY (2; 1, 0). HIDDEN: no such ones.");
        int[][] due = {{9, 6, 1}, {2, -3, 0}, {6, 6, 1}};
        for (int i = 0; i < 9; i++) {
            int asked = i;
            e.leaves("skin(" + i / 3 + ", " + i % 3 + ")", Edges::busy, x -> x.skin(asked / 3, asked % 3), due[i / 3][i % 3]);
        }
        for (int nobody : NOBODY) {
            e.leaves("skin(" + nobody + ", 0)", Edges::busy, x -> x.skin(nobody, 0), HIDDEN);
        }
        for (int what : new int[] {DEEP, -1, 3, 4, FAR}) {
            e.leaves("skin(0, " + what + ")", Edges::busy, x -> x.skin(0, what), HIDDEN);
        }
        e.leaves("no town", Edges::townless, x -> x.skin(0, 0), HIDDEN);
    }

    private static void refusedLeast(Edges e) {
        e.sentence("`int least(int person, int what)`: LEAST: these (0, bits), HARM (1). NONE: by none, no such ones.");
        e.leaves("least(1, 0)", Edges::busy, x -> x.least(1, 0), 2);
        e.leaves("least(1, 1)", Edges::busy, x -> x.least(1, 1), 5);
        e.leaves("least(2, 0)", Edges::busy, x -> x.least(2, 0), 0);
        for (int nobody : NOBODY) {
            e.leaves("least(" + nobody + ", 0)", Edges::busy, x -> x.least(nobody, 0), NONE);
        }
        for (int what : new int[] {DEEP, -1, 2, 3, FAR}) {
            e.leaves("least(0, " + what + ")", Edges::busy, x -> x.least(0, what), NONE);
            e.leaves("least(1, " + what + ")", Edges::busy, x -> x.least(1, what), NONE);
        }
        e.leaves("by none", Edges.town("ps9;dk9"), x -> x.least(0, 0), NONE);
        e.leaves("by none", Edges.town("ps9;dk9"), x -> x.least(0, 1), NONE);
        e.leaves("one less shame", Edges.town("ps8;dk9"), x -> x.least(0, 0), 1);
        e.leaves("no town", Edges::townless, x -> x.least(0, 0), NONE);
    }

    private static void refusedCover(Edges e) {
        e.sentence("`int cover(int people, int what)`: ALL: these (0, bits), HARM (1). NONE: by none, no such PEOPLE (one at least), no such "
            + "what.");
        for (int wrong : new int[] {DEEP, -8, -1, 0, 8, 9, 64, FAR}) {
            e.leaves("cover(" + wrong + ", 0)", Edges::busy, x -> x.cover(wrong, 0), NONE);
            e.leaves("cover(" + wrong + ", 1)", Edges::busy, x -> x.cover(wrong, 1), NONE);
        }
        int[] harm = {NONE, 0, 5, 5, 0, 0, 5, 5};
        for (int people = 1; people < 8; people++) {
            int told = people;
            e.leaves("cover(" + people + ", 1)", Edges::busy, x -> x.cover(told, 1), harm[people]);
            e.leaves("cover(" + people + ", 0)", Edges::busy, x -> x.cover(told, 0), harm[people] == 0 ? 0 : 2);
        }
        for (int what : new int[] {DEEP, -1, 2, 3, FAR}) {
            e.leaves("cover(1, " + what + ")", Edges::busy, x -> x.cover(1, what), NONE);
            e.leaves("cover(7, " + what + ")", Edges::busy, x -> x.cover(7, what), NONE);
        }
        Edges.Story six = Edges.town("p;p;p;p;p;p;dk4h1");
        e.leaves("cover(63, 1)", six, x -> x.cover(63, 1), 6);
        e.leaves("cover(64, 1)", six, x -> x.cover(64, 1), NONE);
        e.leaves("cover(32, 1)", six, x -> x.cover(32, 1), 1);
        e.leaves("of one", Edges.town("p;dk4h1"), x -> x.cover(1, 1), 1);
        e.leaves("a second of one", Edges.town("p;dk4h1"), x -> x.cover(2, 1), NONE);
        e.leaves("by none", Edges.town("ps9;p;dk9"), x -> x.cover(3, 0), NONE);
        e.leaves("no town", Edges::townless, x -> x.cover(1, 0), NONE);
        e.leaves("nobody of no town", Edges::townless, x -> x.cover(0, 0), NONE);
    }

    private static void refusedDays(Edges e) {
        e.sentence("`int soon(int person)`: SOON. NONE: not within 60, no such PERSON.");
        for (int nobody : NOBODY) {
            e.leaves("soon(" + nobody + ")", Edges::busy, x -> x.soon(nobody), NONE);
        }
        e.leaves("soon(0)", Edges::busy, x -> x.soon(0), 9);
        e.leaves("soon(1)", Edges::busy, x -> x.soon(1), 0);
        e.leaves("soon(2)", Edges::busy, x -> x.soon(2), 8);
        e.leaves("in 60", lawful("pb9;d", "y:69-b"), x -> x.soon(0), 60);
        e.leaves("in 61", lawful("pb9;d", "y:70-b"), x -> x.soon(0), NONE);
        e.leaves("no town", Edges::townless, x -> x.soon(0), NONE);

        e.sentence("`int clean()`: CLEAN. NONE: no TOWN.");
        e.leaves("no town", Edges::townless, x -> x.clean(), NONE);
        e.leaves("clean()", Edges::busy, x -> x.clean(), 9);
        e.leaves("clean already", Edges.town("p;d"), x -> x.clean(), 0);
    }

    private static void refusedTrades(Edges e) {
        e.sentence("`int bargain(int person, int other)`: TRADE of two. NONE: by none, no such ones, alike.");
        for (int nobody : NOBODY) {
            e.leaves("bargain(" + nobody + ", 0)", Edges::busy, x -> x.bargain(nobody, 0), NONE);
            e.leaves("bargain(0, " + nobody + ")", Edges::busy, x -> x.bargain(0, nobody), NONE);
            e.leaves("bargain(" + nobody + ", " + nobody + ")", Edges::busy, x -> x.bargain(nobody, nobody), NONE);
        }
        for (int p = 0; p < 3; p++) {
            int person = p;
            e.leaves("alike", Edges::busy, x -> x.bargain(person, person), NONE);
        }
        e.leaves("alike, though guilty by a law", Edges.both(lawful("p;p;d", "y:1"), x -> x.commit(0, 0)), x -> x.bargain(0, 0), NONE);
        e.leaves("0 to 2: his 3 leaves 6 and 9", Edges::busy, x -> x.bargain(0, 2), 0);
        e.leaves("0 to 1: by none, 3 is as his shame", Edges::busy, x -> x.bargain(0, 1), NONE);
        e.leaves("2 to 0: by none, he has it", Edges::busy, x -> x.bargain(2, 0), NONE);
        e.leaves("no town", Edges::townless, x -> x.bargain(0, 1), NONE);
    }

    private static void refusedSights(Edges e) {
        e.sentence("`int seen(int person, int beard, boolean guilty)`: SEEN: how many there are. NONE: no such PERSON, out of bounds, there "
            + "are ten.");
        for (int nobody : NOBODY) {
            e.leaves("seen(" + nobody + ", 0, true)", Edges::busy, x -> x.seen(nobody, 0, true), NONE);
        }
        for (int beard : new int[] {DEEP, -1, 100, FAR}) {
            e.leaves("seen(0, " + beard + ", false)", Edges::busy, x -> x.seen(0, beard, false), NONE);
        }
        e.leaves("no town", Edges::townless, x -> x.seen(0, 0, true), NONE);
        Edges.Story nine = Edges.both(Edges::busy, x -> {
            for (int i = 0; i < 7; i++) {
                x.seen(2, i, true);
            }
        });
        e.answers("the tenth", nine, x -> x.seen(0, 99, true), 10);
        e.leaves("an eleventh", Edges.both(nine, x -> x.seen(0, 99, true)), x -> x.seen(0, 99, true), NONE);

        e.sentence("`int sets(int person, int i)`: SETS: how many (i NONE), the i-th. NONE: no such one, no such PERSON.");
        for (int nobody : NOBODY) {
            e.leaves("sets(" + nobody + ", NONE)", Edges::busy, x -> x.sets(nobody, NONE), NONE);
            e.leaves("sets(" + nobody + ", 0)", Edges::busy, x -> x.sets(nobody, 0), NONE);
        }
        for (int i : new int[] {DEEP, -3, -2, 8, 9, 256, FAR}) {
            e.leaves("sets(2, " + i + ")", Edges::busy, x -> x.sets(2, i), NONE);
        }
        e.leaves("sets(2, NONE)", Edges::busy, x -> x.sets(2, NONE), 8);
        e.leaves("sets(2, 7)", Edges::busy, x -> x.sets(2, 7), 7);
        e.leaves("above 3: 2, 3, 5, 6, 7 as bits", Edges::busy, x -> x.sets(0, NONE) * 10 + x.sets(0, 2), 55);
        e.leaves("one beyond five", Edges::busy, x -> x.sets(0, 5), NONE);
        e.leaves("no town", Edges::townless, x -> x.sets(0, NONE), NONE);

        e.sentence("`int ask(int person)`: ASK. NONE: nothing fits, no such PERSON.");
        for (int nobody : NOBODY) {
            e.leaves("ask(" + nobody + ")", Edges::busy, x -> x.ask(nobody), NONE);
        }
        e.leaves("ask(2)", Edges::busy, x -> x.ask(2), 0);
        e.leaves("nothing fits", Edges.both(Edges::busy, x -> x.seen(0, 5, false)), x -> x.ask(0), NONE);
        e.leaves("nothing but none fits", Edges.both(Edges.town("ps1;dk2"), x -> x.seen(0, 5, false)), x -> x.ask(0), 0);
        e.leaves("no town", Edges::townless, x -> x.ask(0), NONE);
    }

    private static void refusedGames(Edges e) {
        e.sentence("`int game(int person, int x, int y, int what)`: GAME: what the PERSON has (0), the barber (1). HIDDEN: no such PERSON, out "
            + "of bounds.");
        for (int nobody : NOBODY) {
            e.leaves("game(" + nobody + ", 0, 0, 0)", Edges::busy, x -> x.game(nobody, 0, 0, 0), HIDDEN);
        }
        int[][] wrongs = {{-1, 0, 0}, {4, 0, 0}, {FAR, 0, 0}, {DEEP, 0, 0}, {0, -1, 0}, {0, 3, 0}, {0, FAR, 0}, {0, DEEP, 0}, {0, 0, -1},
            {0, 0, 2}, {0, 0, FAR}, {0, 0, DEEP}, {4, 2, 1}, {3, 3, 1}, {3, 2, 2}};
        for (int[] w : wrongs) {
            e.leaves("game(0, " + w[0] + ", " + w[1] + ", " + w[2] + ")", Edges::busy, x -> x.game(0, w[0], w[1], w[2]), HIDDEN);
        }
        e.leaves("game(0, 3, 2, 0)", Edges::busy, x -> x.game(0, 3, 2, 0), 3);
        e.leaves("game(0, 3, 2, 1)", Edges::busy, x -> x.game(0, 3, 2, 1), 3);
        e.leaves("game(1, 0, 0, 0)", Edges::busy, x -> x.game(1, 0, 0, 0), 0);
        e.leaves("no town", Edges::townless, x -> x.game(0, 0, 0, 0), HIDDEN);

        e.sentence("`int rests(int person, int i)`: RESTS: how many (i NONE), the i-th. NONE: no such one, no such PERSON.");
        for (int nobody : NOBODY) {
            e.leaves("rests(" + nobody + ", NONE)", Edges::busy, x -> x.rests(nobody, NONE), NONE);
            e.leaves("rests(" + nobody + ", 0)", Edges::busy, x -> x.rests(nobody, 0), NONE);
        }
        for (int i : new int[] {DEEP, -2, 1, 12, FAR}) {
            e.leaves("rests(0, " + i + ")", Edges::busy, x -> x.rests(0, i), NONE);
        }
        e.leaves("rests(0, NONE)", Edges::busy, x -> x.rests(0, NONE), 1);
        e.leaves("rests(0, 0)", Edges::busy, x -> x.rests(0, 0), 0);
        e.leaves("no town", Edges::townless, x -> x.rests(0, NONE), NONE);
    }

    private static void refusedParts(Edges e) {
        e.sentence("`int odds(int person, int chance)`: ODDS. NONE: no such PERSON, out of bounds.");
        for (int nobody : NOBODY) {
            e.leaves("odds(" + nobody + ", 50)", Edges::busy, x -> x.odds(nobody, 50), NONE);
        }
        for (int chance : new int[] {DEEP, -1, 101, FAR}) {
            e.leaves("odds(0, " + chance + ")", Edges::busy, x -> x.odds(0, chance), NONE);
        }
        e.leaves("odds(0, 0)", Edges::busy, x -> x.odds(0, 0), PARTS);
        e.leaves("odds(0, 100)", Edges::busy, x -> x.odds(0, 100), 0);
        e.leaves("by 6 noticed", Edges::busy, x -> x.odds(0, 50), PARTS / 2);
        e.leaves("no town", Edges::townless, x -> x.odds(0, 50), NONE);

        e.sentence("`int shares(int person, int c)`: SHARES. NONE: no such PERSON, out of bounds.");
        for (int nobody : NOBODY) {
            e.leaves("shares(" + nobody + ", 9)", Edges::busy, x -> x.shares(nobody, 9), NONE);
        }
        for (int c : new int[] {DEEP, -1, 1000, FAR}) {
            e.leaves("shares(0, " + c + ")", Edges::busy, x -> x.shares(0, c), NONE);
        }
        e.leaves("9 of 17", Edges::busy, x -> x.shares(0, 999), 528);
        e.leaves("2 of 17", Edges::busy, x -> x.shares(1, 999), 117);
        e.leaves("6 of 17", Edges::busy, x -> x.shares(2, 999), 352);
        e.leaves("of 0", Edges::busy, x -> x.shares(2, 0), 0);
        e.leaves("no town", Edges::townless, x -> x.shares(0, 9), NONE);
    }

    private static void refusedOwners(Edges e) {
        e.sentence("`int owners(int deed)`: WHO HAS it, as bits. NONE: no such DEED.");
        for (int none : NOBODY) {
            e.leaves("owners(" + none + ")", Edges::busy, x -> x.owners(none), NONE);
        }
        int[] due = {1, 5, 2};
        for (int deed = 0; deed < 3; deed++) {
            int asked = deed;
            e.leaves("owners(" + deed + ")", Edges::busy, x -> x.owners(asked), due[deed]);
        }
        e.leaves("no town", Edges::townless, x -> x.owners(0), NONE);

        e.sentence("`int wish(int person)`: DAYS to the WISH. NONE: no such PERSON.");
        for (int nobody : NOBODY) {
            e.leaves("wish(" + nobody + ")", Edges::busy, x -> x.wish(nobody), NONE);
        }
        int[] days = {0, 6, 5};
        for (int person = 0; person < 3; person++) {
            int asked = person;
            e.leaves("wish(" + person + ")", Edges::busy, x -> x.wish(asked), days[person]);
        }
        e.leaves("no town", Edges::townless, x -> x.wish(0), NONE);
    }

    private static void refusedAll(Edges e) {
        e.sentence("GUILTY (6, bits), SMOOTH (7, bits), INNOCENT (8, bits), SERVED (9). NONE: no TOWN, no such what.");
        int[] due = {0, 0, 2, 2, 1, 2, 5, 0, 0, 2};
        for (int what = 0; what < 10; what++) {
            int asked = what;
            e.leaves("all(" + what + ")", Edges::busy, x -> x.all(asked), due[what]);
            e.leaves("all(" + what + ") of no town", Edges::townless, x -> x.all(asked), NONE);
        }
        for (int what : new int[] {DEEP, -2, -1, 10, 11, FAR}) {
            e.leaves("all(" + what + ")", Edges::busy, x -> x.all(what), NONE);
            e.leaves("all(" + what + ") of no town", Edges::townless, x -> x.all(what), NONE);
        }
    }

    private static void refusedCounts(Edges e) {
        e.sentence("0 PEOPLE, 1 DEEDS, 2 LAWS, 3 WEEKS, 4 bytes of the TAPE, 5 the LAW that holds (NONE), 6 the DAY, 7 COINS, 8 HARM, 9 NICKS, "
            + "10 PLEASED, 11 RUMOUR, 12 SEEN, 13 how long the LOG is, 14 ACTS that can be UNDONE. HIDDEN for others.");
        int[] due = {3, 3, 2, 1, 6, NONE, 1, 19, 13, 2, 1, 6, 2, 1, 9};
        int[] townless = {0, 0, 1, 1, 3, 0, 0, 0, 0, 0, 0, 5, 0, 0, 0};
        for (int what = 0; what < 15; what++) {
            int asked = what;
            e.leaves("count(" + what + ")", Edges::busy, x -> x.count(asked), due[what]);
            e.leaves("count(" + what + ") of no town", Edges::townless, x -> x.count(asked), townless[what]);
        }
        for (int what : new int[] {DEEP, -2, -1, 15, 16, FAR}) {
            e.leaves("count(" + what + ")", Edges::busy, x -> x.count(what), HIDDEN);
            e.leaves("count(" + what + ") of no town", Edges::townless, x -> x.count(what), HIDDEN);
        }
    }
}
