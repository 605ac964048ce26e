import java.math.BigInteger;

/** The edges of what changes: parts 2 and 4 of the terms, promises 6 to 19, 21, 22, 39, 40. */
final class ActEdges {
    private static final int NONE = Edges.NONE;
    private static final int HIDDEN = Edges.HIDDEN;
    private static final int FAR = Integer.MAX_VALUE;
    private static final int DEEP = Integer.MIN_VALUE;

    private ActEdges() {
    }

    static void tell(Edges e) {
        lasting(e);
        fullTown(e);
        reading(e);
        guilty(e);
        doing(e);
        harmInAll(e);
        selling(e);
        atoning(e);
        goingOnceADay(e);
        timesShaved(e);
        nicks(e);
        giving(e);
        lastDay(e);
        logOfADay(e);
        pleased(e);
        growing(e);
        undoing(e);
        undoneLog(e);
        runs(e);
        runsAtTheLastDay(e);
        performing(e);
        yearsInBounds(e);
        rumourInBounds(e);
        draws(e);
        drawsThatDoNothing(e);
        images(e);
        refusals(e);
        refusedDeeds(e);
        refusedSales(e);
        refusedWalks(e);
        refusedGifts(e);
        refusedDays(e);
        refusedLooks(e);
        refusedWeeks(e);
        refusedImages(e);
    }

    // ---- part 2

    private static void lasting(Edges e) {
        e.sentence("A PERSON who did a DEED HAS it as many DAYS as it LASTS.");
        for (int lasts = 1; lasts <= 9; lasts++) {
            GuiltyShave x = Edges.made("p;p;dk4l" + lasts);
            x.commit(0, 0);
            for (int day = 0; day <= 10; day++) {
                int due = Math.max(0, lasts - day);
                e.due("left on day " + day + " of " + lasts, x.left(0, 0), due);
                e.due("guilt then", x.skin(0, 0), due > 0 ? 4 : 0);
                e.due("who has it then", x.owners(0), due > 0 ? 1 : 0);
                x.day();
            }
        }

        e.sentence("GUILT: how HEAVY all are together that he HAS.");
        GuiltyShave x = Edges.made("p;p" + ";dk9".repeat(8));
        e.due("none", x.skin(0, 0), 0);
        for (int deed = 0; deed < 8; deed++) {
            e.due("guilt by one more", x.commit(0, deed), 9 * deed + 9);
        }
        e.due("all eight", x.skin(0, 0), 72);
        e.due("the other", x.skin(1, 0), 0);
    }

    /** Six people and eight deeds: each has his own, and nothing runs over into what is another's. */
    private static void fullTown(Edges e) {
        e.sentence("A PERSON who did a DEED HAS it");
        GuiltyShave x = Edges.made("pb1;pb2;pb3;pb4;pb5;pb6" + ";dl9h1".repeat(8));
        Edges.hold(x, "y:1");
        for (int i = 0; i < 48; i++) {
            for (int j = 0; j < 48; j += i < 47 ? 48 : 1) {
                int due = j < i ? 9 : 0;
                e.due("left(" + j / 8 + ", " + j % 8 + ") behind " + i, x.left(j / 8, j % 8), due);
            }
            e.due("commit(" + i / 8 + ", " + i % 8 + ")", x.commit(i / 8, i % 8), 3 * (i % 8 + 1));
        }
        for (int p = 0; p < 6; p++) {
            e.due("beard", x.person(p, 0), p + 1);
            e.due("shave(" + p + ")", x.shave(p), 1);
            e.due("once", x.person(p, 3), 1);
        }
        for (int day = 1; day <= 9; day++) {
            e.due("clean", x.clean(), 10 - day);
            e.due("all were smooth on the first day", x.day(), day == 1 ? 6 : 0);
            e.due("who was shaved", x.log(0, 1), day == 1 ? 63 : 0);
            for (int i = 0; i < 48 && (day == 1 || day > 7); i++) {
                e.due("left(" + i / 8 + ", " + i % 8 + ") on day " + day, x.left(i / 8, i % 8), 9 - day);
            }
            e.due("guilt of the last", x.skin(5, 0), day < 9 ? 24 : 0);
        }
        e.due("clean", x.clean(), 0);
        x.shave(5);
        x.shave(1);
        e.due("clean, though two went", x.clean(), 0);
        int[] times = {1, 2, 1, 1, 1, 2};
        for (int p = 0; p < 6; p++) {
            e.due("how often " + p, x.person(p, 3), times[p]);
            e.due("his beard", x.person(p, 0), times[p] == 2 ? 0 : 9);
            e.due("he went", x.person(p, 4), times[p] - 1);
        }
        Edges.hold(x, "y:n");
        x.commit(5, 0);
        e.due("n of the first, who has none", x.skin(0, 1), 0);
        e.due("n of the one ahead of the last", x.skin(4, 1), 0);
        e.due("n of the last", x.skin(5, 1), 1);
    }

    private static void reading(Edges e) {
        e.sentence("READ: WORTH by the LAW that holds, held within -99 .. 99 (none at first: GUILT less SHAME)");
        int[][] worths = {{0, 0}, {98, 98}, {99, 99}, {100, 99}, {101, 99}, {9999, 99}};
        for (int[] w : worths) {
            e.answers("read of " + w[0], x -> {
                Texts.tell(x, 0, "p;d");
                Edges.hold(x, "y:" + w[0]);
            }, x -> x.skin(0, 1), w[1]);
            e.answers("read of 0-" + w[0], x -> {
                Texts.tell(x, 0, "p;d");
                Edges.hold(x, "y:0-" + w[0]);
            }, x -> x.skin(0, 1), -w[1]);
        }
        e.answers("no deed and most shame", Edges.town("ps9;d"), x -> x.skin(0, 1), -9);
        e.answers("no deed and no shame", Edges.town("ps0;d"), x -> x.skin(0, 1), 0);
        e.answers("a law that is told does not hold yet", x -> {
            Texts.tell(x, 0, "ps7;d");
            Texts.tell(x, 1, "y:50");
        }, x -> x.skin(0, 1), -7);
        GuiltyShave all = Edges.made("ps0" + ";dk9".repeat(8));
        for (int deed = 0; deed < 8; deed++) {
            all.commit(0, deed);
        }
        e.due("all deeds and no shame", all.skin(0, 1), 72);

        e.sentence("letters: g GUILT, s SHAME, b BEARD, n how many DEEDS he HAS, w the DAY modulo 7, t how often he was SHAVED.");
        GuiltyShave x = Edges.made("pb99s9;dk9l9;dk8l9");
        Edges.hold(x, "y:w");
        int[] weekdays = {0, 1, 2, 3, 4, 5, 6, 0, 1, 2, 3, 4, 5, 6, 0};
        for (int day = 0; day < weekdays.length; day++) {
            e.due("w on day " + day, x.skin(0, 1), weekdays[day]);
            x.day();
        }
        Edges.hold(x, "y:b");
        e.due("b", x.skin(0, 1), 99);
        Edges.hold(x, "y:g*10+n");
        e.due("g and n of none", x.skin(0, 1), 0);
        x.commit(0, 1);
        e.due("g and n of one", x.skin(0, 1), 81);
        Edges.hold(x, "y:s*10+t");
        e.due("s and t", x.skin(0, 1), 90);
        x.shave(0);
        e.due("s and t, shaved", x.skin(0, 1), 91);
        x = Edges.made("p;d");
        Edges.pass(x, 999);
        Edges.hold(x, "y:w");
        e.due("w on day 999", x.skin(0, 1), 5);
    }

    private static void guilty(Edges e) {
        e.sentence("He is GUILTY, if READ is above 0.");
        String[] laws = {"y:0-9999", "y:0-1", "y:0", "y:1", "y:9999"};
        int[] due = {0, 0, 0, 1, 1};
        for (int i = 0; i < laws.length; i++) {
            String law = laws[i];
            Edges.Story story = x -> {
                Texts.tell(x, 0, "pb5;d");
                Edges.hold(x, law);
            };
            e.leaves("skin(0, 2) by " + law, story, x -> x.skin(0, 2), due[i]);
            e.leaves("all(6) by " + law, story, x -> x.all(6), due[i]);
            e.answers("shave(0) by " + law, story, x -> x.shave(0), due[i]);
            e.leaves("soon(0) by " + law, story, x -> x.soon(0), due[i] == 1 ? NONE : 0);
        }
        e.answers("guilt 3, shame 4", Edges.both(Edges.town("ps4;d"), x -> x.commit(0, 0)), x -> x.shave(0), 0);
        e.answers("guilt 3, shame 3", Edges.both(Edges.town("ps3;d"), x -> x.commit(0, 0)), x -> x.shave(0), 0);
        e.answers("guilt 3, shame 2", Edges.both(Edges.town("ps2;d"), x -> x.commit(0, 0)), x -> x.shave(0), 1);
    }

    private static void doing(Edges e) {
        e.sentence("he does a DEED that he HAS not (HARM in all is more by its HARM, 9,999 at most)");
        Edges.Story did = x -> {
            Texts.tell(x, 0, "p;p;dh9l2;dh0");
            x.commit(0, 0);
        };
        e.leaves("he has it", did, x -> x.commit(0, 0), NONE);
        e.leaves("he has it, with a day left", Edges.both(did, x -> x.day()), x -> x.commit(0, 0), NONE);
        e.answers("with none left he does it again", Edges.both(did, x -> {
            x.day();
            x.day();
        }), x -> x.commit(0, 0) * 100 + x.count(8), 318);
        e.answers("the other does it, too", did, x -> x.commit(1, 0) * 100 + x.count(8), 318);
        e.answers("without harm", did, x -> x.commit(0, 1) * 100 + x.count(8), 609);
    }

    /** 23 DAYS of 432, then six times 9: HARM in all is 9,990. */
    private static void untilHarm9990(GuiltyShave x) {
        Texts.tell(x, 0, "p;p;p;p;p;p" + ";dh9l1".repeat(8));
        for (int week = 0; week < 3; week++) {
            StringBuilder steps = new StringBuilder();
            for (int i = 0; i < 16; i++) {
                steps.append(i > 0 ? ";" : "").append('d').append(2 * week + i / 8).append(i % 8);
            }
            Texts.tell(x, 2, steps.toString());
        }
        for (int day = 0; day < 23; day++) {
            x.perform(0);
            x.perform(1);
            x.perform(2);
            x.day();
        }
        for (int deed = 0; deed < 6; deed++) {
            x.commit(0, deed);
        }
    }

    private static void harmInAll(Edges e) {
        e.sentence("how much more HARM in all is behind it");
        Edges.Story near = ActEdges::untilHarm9990;
        e.answers("inside", near, x -> x.count(8), 9990);
        e.answers("at the edge", near, x -> x.commit(0, 6) * 0 + x.count(8), 9999);
        e.answers("beyond it", near, x -> x.commit(0, 6) * 0 + x.commit(0, 7) * 0 + x.count(8), 9999);
        e.answers("the deed is done all the same", near, x -> x.commit(0, 6) * 0 + x.commit(0, 7) * 0 + x.left(0, 7), 1);
        e.answers("undone, it is less", near, x -> x.commit(0, 6) * 0 + x.commit(0, 7) * 0 + x.undo() * 0 + x.undo() * 0 + x.count(8), 9990);
        e.answers("the log", near, x -> x.perform(1) * 0 + x.day() * 0 + x.log(0, 2), 9999);
        e.leaves("run: 16 times 9 are 9 more", near, x -> x.run(1, 1), 9);
        e.leaves("run: all can be", near, x -> x.run(1, 0), NONE);
        e.leaves("run at the bound: none more", Edges.both(near, x -> x.commit(0, 6)), x -> x.run(1, 1), 0);
        e.leaves("run that can't be: none more", near, x -> x.run(0, 1), 0);
        e.answers("years", near, x -> x.years(30, 5) * 0 + x.count(8), 9999);
    }

    private static void selling(Edges e) {
        e.sentence("he SELLS a DEED that he HAS to one who HAS it not (a COIN; with the DAYS that are left)");
        for (int coins = 0; coins <= 2; coins++) {
            String town = "sc" + coins + ";p;p;dl3;d";
            Edges.Story story = Edges.both(Edges.town(town), x -> {
                x.commit(0, 0);
                x.day();
            });
            if (coins == 0) {
                e.leaves("no coin", story, x -> x.sell(0, 1, 0), NONE);
            } else {
                int due = coins - 1;
                e.answers("with " + coins, story, x -> x.sell(0, 1, 0), 2);
                e.answers("coins then", story, x -> x.sell(0, 1, 0) * 10 + x.count(7), 20 + due);
                e.answers("who has it then", story, x -> x.sell(0, 1, 0) * 10 + x.owners(0), 22);
                e.answers("how long", story, x -> x.sell(0, 1, 0) * 10 + x.left(1, 0), 22);
            }
        }
        Edges.Story last = x -> {
            Texts.tell(x, 0, "p;p;dl2");
            x.commit(0, 0);
            x.day();
        };
        e.answers("on its last day", last, x -> x.sell(0, 1, 0), 1);
        e.leaves("behind its last day", Edges.both(last, x -> x.day()), x -> x.sell(0, 1, 0), NONE);
        Edges.Story had = Edges.both(last, x -> x.commit(1, 0));
        e.leaves("to one who has it", had, x -> x.sell(0, 1, 0), NONE);
        e.leaves("back by one who has it", had, x -> x.sell(1, 0, 0), NONE);
        e.leaves("by one who has it not", last, x -> x.sell(1, 0, 0), NONE);
    }

    private static void atoning(Edges e) {
        e.sentence("he ATONES for one that he HAS (it is gone; 2 COINS)");
        for (int coins = 0; coins <= 3; coins++) {
            Edges.Story story = Edges.both(Edges.town("sc" + coins + ";p;dk4;dk5"), x -> {
                x.commit(0, 0);
                x.commit(0, 1);
            });
            if (coins < 2) {
                e.leaves("with " + coins, story, x -> x.atone(0, 0), NONE);
            } else {
                int due = coins - 2;
                e.answers("with " + coins, story, x -> x.atone(0, 0), 5);
                e.answers("coins then", story, x -> x.atone(0, 0) * 10 + x.count(7), 50 + due);
                e.answers("it is gone", story, x -> x.atone(0, 0) * 10 + x.left(0, 0), 50);
                e.answers("harm is as it was", story, x -> x.atone(0, 0) * 10 + x.count(8), 54);
            }
        }
        Edges.Story last = x -> {
            Texts.tell(x, 0, "p;p;dl2");
            x.commit(0, 0);
            x.day();
        };
        e.answers("on its last day", last, x -> x.atone(0, 0), 0);
        e.leaves("behind its last day", Edges.both(last, x -> x.day()), x -> x.atone(0, 0), NONE);
        e.leaves("twice", Edges.both(last, x -> x.atone(0, 0)), x -> x.atone(0, 0), NONE);
        e.leaves("one who has it not", last, x -> x.atone(1, 0), NONE);
    }

    private static void goingOnceADay(Edges e) {
        e.sentence("he goes to be SHAVED (once a DAY)");
        Edges.Story shaved = x -> {
            Texts.tell(x, 0, "ps0b4;ps9b4;d");
            x.commit(0, 0);
            x.shave(0);
        };
        Edges.Story nicked = Edges.both(shaved, x -> x.shave(1));
        e.leaves("the shaved goes again", shaved, x -> x.shave(0), NONE);
        e.leaves("the nicked goes again", nicked, x -> x.shave(1), NONE);
        e.answers("another one goes", shaved, x -> x.shave(1), 0);
        e.answers("the next day", Edges.both(nicked, x -> x.day()), x -> x.shave(0) * 10 + x.shave(1), 10);
        e.leaves("the next day twice", Edges.both(nicked, x -> {
            x.day();
            x.shave(0);
        }), x -> x.shave(0), NONE);
        e.answers("undone, he may go", Edges.both(shaved, x -> x.undo()), x -> x.shave(0), 1);
    }

    private static void timesShaved(Edges e) {
        e.sentence("GUILTY: BEARD is 0 (SHAVED one more, 999 at most)");
        e.answers("beard", x -> {
            Texts.tell(x, 0, "ps0b99;d");
            x.commit(0, 0);
            x.shave(0);
        }, x -> x.person(0, 0) * 10 + x.person(0, 3), 1);
        // Eight times a WEEK: 124 of these are 992 times, on DAY 992.
        Edges.Story often = x -> {
            Texts.tell(x, 0, "p;d");
            Edges.hold(x, "y:t+1");
            Texts.tell(x, 2, "s0;n" + ";s0;n".repeat(7));
            for (int i = 0; i < 124; i++) {
                x.perform(0);
            }
            for (int i = 0; i < 6; i++) {
                x.shave(0);
                x.day();
            }
        };
        e.answers("inside", often, x -> x.person(0, 3), 998);
        Edges.Story edge = Edges.both(often, x -> {
            x.shave(0);
            x.day();
        });
        e.answers("at the edge", edge, x -> x.person(0, 3), 999);
        e.answers("the day", edge, x -> x.count(6), 999);
        e.answers("beyond it he is shaved", edge, x -> x.shave(0), 1);
        e.answers("and is so 999 times", edge, x -> x.shave(0) * 1000 + x.person(0, 3), 1999);
        e.answers("his beard is 0", edge, x -> x.shave(0) * 1000 + x.person(0, 0), 1000);
        e.answers("undone, 999", edge, x -> x.shave(0) * 1000 + x.undo() * 0 + x.person(0, 3), 1999);
    }

    private static void nicks(Edges e) {
        e.sentence("else he is NICKED (NICKS in all one more, 999 at most; COINS less by what a NICK costs, 0 at least)");
        for (int coins = 0; coins <= 5; coins++) {
            int due = Math.max(0, coins - 3);
            Edges.Story story = Edges.town("sn3c" + coins + ";pb7;d");
            e.answers("nicked with " + coins, story, x -> x.shave(0), 0);
            e.answers("coins then", story, x -> x.shave(0) + x.count(7), due);
            e.answers("nicks then", story, x -> x.shave(0) + x.count(9), 1);
            e.answers("beard then", story, x -> x.shave(0) + x.person(0, 0), 7);
            e.answers("never shaved", story, x -> x.shave(0) + x.person(0, 3), 0);
        }
        Edges.Story often = x -> {
            Texts.tell(x, 0, "sn0c5;p;p;p;p;p;p;d");
            Texts.tell(x, 2, "s0;s1;s2;s3;s4;s5;n;s0;s1;s2;s3;s4;s5;n");
            for (int i = 0; i < 83; i++) {
                x.perform(0);
            }
            x.shave(0);
            x.shave(1);
        };
        e.answers("inside", often, x -> x.count(9), 998);
        e.answers("at the edge", often, x -> x.shave(2) + x.count(9), 999);
        e.answers("beyond it", often, x -> x.shave(2) + x.shave(3) + x.count(9), 999);
        e.answers("beyond it he went", often, x -> x.shave(2) + x.shave(3) + x.person(3, 4), 1);
        e.answers("undone to the edge", often, x -> x.shave(2) + x.shave(3) + x.undo() * 0 + x.count(9), 999);
        e.answers("undone to inside", often, x -> x.shave(2) + x.shave(3) + x.undo() * 0 + x.undo() * 0 + x.count(9), 998);
        e.answers("a nick for nothing", often, x -> x.count(7), 5);
    }

    private static void giving(Edges e) {
        e.sentence("COINS are given (1 .. 50; 999 at most)");
        for (int n : new int[] {DEEP, -50, -1, 0, 51, 52, 999, FAR}) {
            e.leaves("give(" + n + ")", Edges::busy, x -> x.give(n), NONE);
        }
        for (int n : new int[] {1, 2, 49, 50}) {
            e.answers("give(" + n + ")", Edges.town("sc0;p;d"), x -> x.give(n), n);
        }
        Edges.Story rich = x -> {
            Texts.tell(x, 0, "sc99;p;d");
            for (int i = 0; i < 17; i++) {
                x.give(50);
            }
        };
        e.answers("949 and 50", rich, x -> x.give(50), 999);
        e.answers("949 and 49", rich, x -> x.give(49), 998);
        Edges.Story one = Edges.both(rich, x -> x.give(1));
        e.leaves("950 and 50", one, x -> x.give(50), NONE);
        e.answers("950 and 49", one, x -> x.give(49), 999);
        Edges.Story full = Edges.both(rich, x -> x.give(50));
        e.leaves("999 and 1", full, x -> x.give(1), NONE);
        e.leaves("999 and 50", full, x -> x.give(50), NONE);
        e.answers("an act", full, x -> x.count(14), 18);
        e.answers("undone", full, x -> x.undo() * 1000 + x.count(7), 17949);
    }

    private static void lastDay(Edges e) {
        e.sentence("A DAY (0 at first; 999 at most: none goes by then)");
        e.answers("at first", Edges.town("p;d"), x -> x.count(6), 0);
        Edges.Story near = x -> {
            Texts.tell(x, 0, "pb3;p;dl9");
            Edges.pass(x, 997);
            x.commit(0, 0);
        };
        e.answers("inside", near, x -> x.day() + x.count(6), 998);
        Edges.Story before = Edges.both(near, x -> x.day());
        e.answers("to the edge", before, x -> x.day() + x.count(6), 999);
        Edges.Story at = Edges.both(before, x -> x.day());
        e.leaves("beyond it", at, x -> x.day(), NONE);
        e.leaves("beyond it by years", at, x -> x.years(1, 1), NONE);
        e.answers("other acts go on", at, x -> x.commit(1, 0) * 100 + x.shave(0) * 10 + x.sell(0, 1, 0), 300 + NONE);
        e.answers("undone, a day goes by again", at, x -> x.undo() * 0 + x.count(6) * 10 + x.day(), 9980);
        e.answers("the log", at, x -> x.count(13), 60);
    }

    private static void logOfADay(Edges e) {
        e.sentence("the LOG: who is SMOOTH (BEARD 0; bits) as it is then, who was SHAVED that DAY (not NICKED; bits), HARM in all "
            + "(the latest 60)");
        Edges.Story three = x -> {
            Texts.tell(x, 0, "pb0s9;pb1s0;pb2s0;dh3");
            x.commit(1, 0);
            x.shave(0);
            x.shave(1);
            x.day();
        };
        e.leaves("smooth: beard 0, and the shaved", three, x -> x.log(0, 0), 3);
        e.leaves("shaved: not the nicked", three, x -> x.log(0, 1), 2);
        e.leaves("harm", three, x -> x.log(0, 2), 3);
        for (int days : new int[] {1, 2, 59, 60, 61, 62, 129, 200}) {
            Edges.Story story = Edges.both(three, x -> Edges.pass(x, days - 1));
            int length = Math.min(60, days);
            e.leaves("how long on day " + days, story, x -> x.count(13), length);
            e.leaves("the first that is kept", story, x -> x.log(length - 1, 1), days <= 60 ? 2 : 0);
            e.leaves("one beyond", story, x -> x.log(length, 0), NONE);
            e.leaves("harm is kept in each", story, x -> x.log(length - 1, 2) * 10 + x.log(0, 2), 33);
        }
        Edges.Story own = x -> {
            Texts.tell(x, 0, "p;dl1h9;dl1h1");
            for (int i = 0; i < 70; i++) {
                x.commit(0, i % 10 == 0 ? 0 : 1);
                x.day();
            }
        };
        for (int i = 0; i < 60; i++) {
            int asked = i;
            int day = 69 - i;
            e.answers("harm of day " + day, own, x -> x.log(asked, 2), (day + 1) + 8 * (day / 10 + 1));
        }
    }

    private static void pleased(Edges e) {
        e.sentence("PLEASED (0 at first; 9,999 at most) is more by how many are SMOOTH whose WISH is this day of the week");
        e.answers("at first", Edges.town("p;d"), x -> x.count(10), 0);
        for (int wish = 0; wish < 7; wish++) {
            GuiltyShave x = Edges.made("pw" + wish + ";d");
            Edges.hold(x, "y:1");
            int due = 0;
            for (int day = 0; day < 15; day++) {
                x.shave(0);
                x.day();
                due += day % 7 == wish ? 1 : 0;
                e.due("wish " + wish + " behind day " + day, x.count(10), due);
            }
        }
        e.answers("a beard of a day does not please", x -> {
            Texts.tell(x, 0, "pb1w0;pb0w0;pb0w0;pb0w1;d");
            x.day();
        }, x -> x.count(10), 2);
        // The most that 999 DAYS can give is far below 9,999: six on each of 143 days of the WISH.
        GuiltyShave x = Edges.made("p;p;p;p;p;p;d");
        Edges.hold(x, "y:1");
        Texts.tell(x, 2, "s0;s1;s2;s3;s4;s5;n;n;n;n;n;n;n");
        for (int i = 0; i < 142; i++) {
            e.due("a week", x.perform(0), 13);
        }
        e.due("behind 142 weeks", x.count(10), 852);
        e.due("up to 999", x.perform(0), 11);
        e.due("the most", x.count(10), 858);
        e.due("the day", x.count(6), 999);
    }

    private static void growing(Edges e) {
        e.sentence("each BEARD is one more (99 at most), each DEED one HAS has a DAY less (with none left it is gone); nobody went to "
            + "be SHAVED.");
        for (int beard : new int[] {0, 1, 97, 98, 99}) {
            Edges.Story story = Edges.town("pb" + beard + ";d");
            e.answers("beard " + beard, story, x -> x.day() * 0 + x.person(0, 0), Math.min(99, beard + 1));
            e.answers("two days behind " + beard, story, x -> x.day() * 0 + x.day() * 0 + x.person(0, 0), Math.min(99, beard + 2));
        }
        Edges.Story story = x -> {
            Texts.tell(x, 0, "p;ps0;dl1;dl2;dl3");
            x.commit(0, 0);
            x.commit(0, 1);
            x.commit(0, 2);
            x.commit(1, 2);
            x.shave(0);
            x.shave(1);
        };
        e.answers("left behind a day", story, x -> x.day() * 0 + x.left(0, 0) * 100 + x.left(0, 1) * 10 + x.left(0, 2), 12);
        e.answers("left behind two", story, x -> x.day() * 0 + x.day() * 0 + x.left(0, 0) * 100 + x.left(0, 1) * 10 + x.left(0, 2), 1);
        e.answers("none is below none", story,
            x -> x.day() * 0 + x.day() * 0 + x.day() * 0 + x.day() * 0 + x.left(0, 0) * 100 + x.left(0, 1) * 10 + x.left(0, 2), 0);
        e.answers("both went", story, x -> x.person(0, 4) + x.person(1, 4), 2);
        e.answers("nobody went", story, x -> x.day() * 0 + x.person(0, 4) + x.person(1, 4), 0);
        e.answers("and nobody was shaved on the next", story, x -> x.day() * 0 + x.day() * 0 + x.log(0, 1) * 10 + x.log(1, 1), 3);
    }

    private static void undoing(Edges e) {
        e.sentence("All these are ACTS: the latest 40 can be UNDONE one by one (LOG, too).");
        for (int acts : new int[] {0, 1, 39, 40, 41, 42, 80, 81}) {
            Edges.Story story = x -> {
                Texts.tell(x, 0, "p;d");
                for (int i = 0; i < acts; i++) {
                    if (i % 2 == 0) {
                        x.give(1);
                    } else {
                        x.day();
                    }
                }
            };
            int kept = Math.min(40, acts);
            e.leaves("acts of " + acts, story, x -> x.count(14), kept);
            GuiltyShave x = Edges.made(story);
            for (int left = kept - 1; left >= 0; left--) {
                e.due("undo of " + acts, x.undo(), left);
                e.due("what is left", x.count(14), left);
                int undone = acts - kept + left;
                e.due("coins then", x.count(7), 20 + (undone + 1) / 2);
                e.due("the day then", x.count(6), undone / 2);
                e.due("the log then", x.count(13), undone / 2);
            }
            e.due("none is left of " + acts, x.undo(), NONE);
            e.due("and nothing more is undone", x.count(7) * 100 + x.count(6), (20 + (acts - kept + 1) / 2) * 100 + (acts - kept) / 2);
        }
        Edges.Story kinds = x -> {
            Texts.tell(x, 0, "p;p;ps0;d;d");
            x.commit(0, 0);
            x.sell(0, 1, 0);
            x.atone(1, 0);
            x.commit(2, 1);
            x.shave(2);
            x.shave(0);
            x.give(9);
            x.day();
            x.years(2, 3);
        };
        e.answers("each kind is one", kinds, x -> x.count(14), 10);
        e.answers("no others are", Edges.both(kinds, x -> {
            x.seen(0, 0, true);
            x.rumour(1);
            x.law(NONE);
            x.image();
            Texts.tell(x, 1, "y:1");
            Texts.tell(x, 2, "n");
        }), x -> x.count(14), 10);
        e.answers("acts behind an undone one", Edges.both(kinds, x -> {
            x.undo();
            x.undo();
            x.give(1);
        }), x -> x.count(14), 9);
    }

    private static void undoneLog(Edges e) {
        e.sentence("`int undo()`: The latest ACT is UNDONE: how many still can be. NONE: none.");
        e.leaves("no town", Edges::townless, x -> x.undo(), NONE);
        e.leaves("no act", Edges.town("p;d"), x -> x.undo(), NONE);
        e.leaves("no act behind back", Edges.both(Edges::busy, x -> x.back()), x -> x.undo(), NONE);
        // Each DAY has its own HARM in the LOG, so what comes back is seen.
        Edges.Story long100 = x -> {
            Texts.tell(x, 0, "p;dl1h1");
            for (int i = 0; i < 100; i++) {
                x.commit(0, 0);
                x.day();
            }
        };
        GuiltyShave x = Edges.made(long100);
        for (int i = 0; i < 40; i++) {
            x.undo();
        }
        e.due("the day", x.count(6), 80);
        e.due("the log is as long", x.count(13), 60);
        for (int i = 0; i < 60; i++) {
            e.due("log(" + i + ", 2)", x.log(i, 2), 80 - i);
        }
        // By years each DAY is one ACT: forty DAYS are undone, and others go by.
        x = Edges.made("p;dl1h1");
        x.rumour(0);
        for (int i = 0; i < 4; i++) {
            x.years(30, i);
        }
        int[] harm = new int[121];
        for (int i = 0; i < 40; i++) {
            e.due("undo()", x.undo(), 39 - i);
        }
        e.due("the day", x.count(6), 80);
        for (int i = 0; i < 60; i++) {
            harm[i] = x.log(i, 2);
            e.due("one more each day", harm[i], 80 - i);
        }
        x.give(1);
        x.day();
        e.due("the first of sixty is out", x.log(59, 2), 22);
        x.undo();
        e.due("and back", x.log(59, 2), 21);
        e.due("one beyond", x.log(60, 2), NONE);
    }

    // ---- RUN and DO

    private static Edges.Story week(String town, String steps) {
        return x -> {
            Texts.tell(x, 0, town);
            Texts.tell(x, 2, steps);
        };
    }

    private static void runs(Edges e) {
        e.sentence("RUN of a WEEK: behind how many STEPS the first is that can't be");
        Object[][] rows = {
            {"sn1c5;p;p;dh4;dh3", "d00", NONE, 4}, {"sn1c5;p;p;dh4;dh3", "a00", 0, 0}, {"sn1c5;p;p;dh4;dh3", "d00;d00", 1, 4},
            {"sn1c5;p;p;dh4;dh3", "d00;d01;a00;a01;d00;a00", 5, 11}, {"sn1c6;p;p;dh4;dh3", "d00;d01;a00;a01;d00;a00", NONE, 11},
            {"sn1c5;p;p;dh4;dh3", "s0;s1;s0", 2, 0}, {"sn1c5;p;p;dh4;dh3", "s0;s1;n;s0;s1", NONE, 0},
            {"sn9c5;p;p;dh4;dh3", "d00;s0;a00", 2, 4}, {"sn3c5;p;p;dh4;dh3", "d00;s0;a00", NONE, 4},
            {"sn4c5;p;p;dh4;dh3", "d00;s0;a00", 2, 4}, {"p;dl1", "d00;n;d00;n;d00", NONE, 6}, {"p;dl2", "d00;n;d00", 2, 2},
            {"p;d", "n;n;n;n;n;n;n;n;n;n;n;n;n;n;n;n", NONE, 0}, {"p;d", "n;n;n;n;n;n;n;n;n;n;n;n;n;n;n;s1", 15, 0},
        };
        for (Object[] row : rows) {
            Edges.Story story = week((String) row[0], (String) row[1]);
            e.leaves("run(0, 0) of " + row[1], story, x -> x.run(0, 0), (Integer) row[2]);
            e.leaves("run(0, 1) of " + row[1], story, x -> x.run(0, 1), (Integer) row[3]);
        }
        e.leaves("harm that was is not more", Edges.both(week("p;dl1h7", "n;d00"), x -> x.commit(0, 0)), x -> x.run(0, 1), 7);
    }

    private static void runsAtTheLastDay(Edges e) {
        e.sentence("(Apart, from as it is; DAYS go on behind 999, but not in RUN.)");
        Edges.Story at998 = Edges.both(week("ps0w6;p;dl9h1", "n;d00;n;d10"), x -> Edges.pass(x, 998));
        Edges.Story at999 = Edges.both(at998, x -> x.day());
        e.leaves("run on 998", at998, x -> x.run(0, 0), 2);
        e.leaves("its harm", at998, x -> x.run(0, 1), 1);
        e.leaves("run on 999", at999, x -> x.run(0, 0), 0);
        e.leaves("its harm", at999, x -> x.run(0, 1), 0);
        e.answers("perform on 998", at998, x -> x.perform(0) * 1000 + x.count(6), 2999);
        e.answers("perform on 999", at999, x -> x.perform(0) * 1000 + x.count(6), 999);
        Edges.Story did = Edges.both(at999, x -> x.commit(0, 0));
        e.leaves("soon on 999", did, x -> x.soon(0), 9);
        e.leaves("clean on 999", did, x -> x.clean(), 9);
        e.leaves("the wish on 999, day 5 of the week", did, x -> x.wish(0), 1);
        e.leaves("served on 999", did, x -> x.all(9), 1);
        Edges.Story byWeekday = Edges.both(at999, x -> Edges.hold(x, "y:w"));
        e.leaves("w goes on: 5, 6, 0", byWeekday, x -> x.soon(0), 2);
        e.leaves("day 6 of the week is read, day 0 is not above 0", byWeekday, x -> x.all(9), 1);
    }

    private static void performing(Edges e) {
        e.sentence("DO: its STEPS as ACTS, up to there.");
        Edges.Story story = week("sc4;p;dh2l1", "d00;a00;d00;n;d00;a00;d00;a00;n");
        e.answers("done", story, x -> x.perform(0), 7);
        e.answers("acts", story, x -> x.perform(0) * 10 + x.count(14), 77);
        e.answers("harm", story, x -> x.perform(0) * 10 + x.count(8), 78);
        e.answers("coins", story, x -> x.perform(0) * 10 + x.count(7), 70);
        e.answers("day", story, x -> x.perform(0) * 10 + x.count(6), 71);
        e.answers("undone one by one", story, x -> x.perform(0) * 0 + x.undo() * 10 + x.left(0, 0), 60);
        e.answers("none can be", week("p;d", "a00;n"), x -> x.perform(0) * 10 + x.count(14), 0);
        e.leaves("none can be: nothing changes", week("p;d", "a00;n"), x -> x.perform(0), 0);
        Edges.Story sixteen = week("p;d", "n" + ";n".repeat(15));
        e.answers("sixteen", sixteen, x -> x.perform(0) * 100 + x.count(14), 1616);
        e.answers("48 acts are 40", sixteen, x -> x.perform(0) * 0 + x.perform(0) * 0 + x.perform(0) * 100 + x.count(14), 1640);
    }

    // ---- part 4

    private static void yearsInBounds(Edges e) {
        e.sentence("YEARS by a seed: n (1 .. 30) DAYS");
        for (int n : new int[] {DEEP, -30, -1, 0, 31, 32, 60, FAR}) {
            e.leaves("years(" + n + ")", Edges::busy, x -> x.years(n, 9), NONE);
        }
        for (int n : new int[] {1, 2, 29, 30}) {
            e.answers("years(" + n + ")", Edges::busy, x -> x.years(n, 9), 1 + n);
            e.answers("the day then", Edges::busy, x -> x.years(n, 9) * 0 + x.count(6), 1 + n);
        }

        e.sentence("Each DAY with what is ahead of it is one ACT.");
        for (int n : new int[] {1, 2, 30}) {
            e.answers("acts of " + n, Edges.town("p;d"), x -> x.years(n, 4) * 0 + x.count(14), n);
            e.answers("undone all", Edges.town("p;dl1"), x -> {
                x.years(n, 4);
                for (int i = 0; i < n; i++) {
                    x.undo();
                }
                return x.undo() * 1000 + x.count(6) + x.count(8) + x.count(9) + x.count(13) + x.owners(0);
            }, -1000);
        }
        e.answers("sixty are forty", Edges.town("p;d"), x -> x.years(30, 4) * 0 + x.years(30, 4) * 0 + x.count(14), 40);
    }

    /** A draw told by numbers without bounds. */
    private static int[] drawn(long seed, int... sides) {
        BigInteger all = BigInteger.ONE.shiftLeft(64);
        BigInteger x = BigInteger.valueOf(seed).mod(all);
        int[] draws = new int[sides.length];
        for (int i = 0; i < sides.length; i++) {
            x = x.multiply(new BigInteger("6364136223846793005")).add(new BigInteger("1442695040888963407")).mod(all);
            draws[i] = x.shiftRight(33).mod(BigInteger.valueOf(sides[i])).intValue();
        }
        return draws;
    }

    private static void rumourInBounds(Edges e) {
        e.sentence("then a draw of 10 below RUMOUR (0 .. 9; 5 at first)");
        e.answers("at first", x -> { }, x -> x.count(11), 5);
        for (int seed = 0; seed < 40; seed++) {
            int of = seed;
            int third = drawn(seed, 6, 8, 10)[2];
            for (int rumour = 0; rumour <= 9; rumour++) {
                int told = rumour;
                e.answers("who went by seed " + seed + " and rumour " + rumour, x -> {
                    Texts.tell(x, 0, "ps9;ps9;ps9;ps9;ps9;ps9" + ";dk1".repeat(8));
                    x.rumour(told);
                }, x -> x.years(1, of) * 0 + x.count(9), third < rumour ? 1 : 0);
            }
        }
    }

    private static void draws(Edges e) {
        e.sentence("x, at first the seed, becomes x times 6364136223846793005 and 1442695040888963407 (64 bits, going round); a draw of "
            + "j: (x shifted right by 33, without sign) modulo j.");
        long[] seeds = {0, 1, -1, 2, Long.MAX_VALUE, Long.MIN_VALUE, Long.MAX_VALUE - 1, Long.MIN_VALUE + 1, 1L << 33, -(1L << 33),
            1L << 62, 0xFFFFFFFFL, 1234567890123456789L, -1234567890123456789L};
        for (long seed : seeds) {
            for (int people : new int[] {1, 2, 3, 5, 6}) {
                int[] d = drawn(seed, people, 7, 10, people);
                GuiltyShave x = Edges.made("p" + ";p".repeat(people - 1) + ";dh1l9".repeat(7));
                Edges.hold(x, "y:1");
                x.rumour(9);
                e.due("years(1, " + seed + ")", x.years(1, seed), 1);
                for (int deed = 0; deed < 7; deed++) {
                    e.due("owners(" + deed + ") by " + seed, x.owners(deed), deed == d[1] ? 1 << d[0] : 0);
                }
                e.due("who was shaved by " + seed, x.log(0, 1), d[2] < 9 ? 1 << d[3] : 0);
            }
        }
        e.due("another seed, another day", Edges.bit(drawn(1, 1000)[0] == drawn(2, 1000)[0]), 0);
    }

    private static void drawsThatDoNothing(Edges e) {
        e.sentence("a draw of how many PEOPLE there are, a draw of how many DEEDS: he does it, if he HAS it not");
        Edges.Story has = x -> {
            Texts.tell(x, 0, "p;dl5h4");
            x.rumour(0);
            x.commit(0, 0);
        };
        e.answers("he has it: no harm", has, x -> x.years(1, 1) * 0 + x.count(8), 4);
        e.answers("he has it: not longer", has, x -> x.years(1, 1) * 0 + x.left(0, 0), 4);
        e.answers("until it is gone", has, x -> x.years(5, 1) * 0 + x.count(8) * 10 + x.left(0, 0), 40);
        e.answers("then anew", has, x -> x.years(6, 1) * 0 + x.count(8) * 10 + x.left(0, 0), 84);

        e.sentence("a draw of how many PEOPLE: he goes to be SHAVED, if he did not that DAY.");
        long seed = 0;
        while (drawn(seed, 1, 1, 10)[2] >= 5) {
            seed++;
        }
        long goes = seed;
        Edges.Story went = x -> {
            Texts.tell(x, 0, "ps9;d");
            x.shave(0);
        };
        e.answers("he went: no other nick", went, x -> x.years(1, goes) * 0 + x.count(9), 1);
        e.answers("he did not", Edges.town("ps9;d"), x -> x.years(1, goes) * 0 + x.count(9), 1);
        e.answers("he went the day before", Edges.both(went, x -> x.day()), x -> x.years(1, goes) * 0 + x.count(9), 2);
        e.answers("the day is an act all the same", went, x -> x.years(1, goes) * 0 + x.count(14), 2);
    }

    private static void images(Edges e) {
        e.sentence("BACK: they are so again (no ACT can be UNDONE then).");
        Edges.Story changed = Edges.both(Edges::busy, x -> {
            x.image();
            x.commit(2, 0);
            x.day();
            x.shave(0);
            x.years(20, 6);
            x.give(50);
            x.rumour(2);
            x.law(0);
            x.seen(2, 7, true);
            Texts.tell(x, 2, "n");
        });
        GuiltyShave before = Edges.made(Edges::busy);
        GuiltyShave x = Edges.made(changed);
        e.due("back", x.back(), 1);
        for (int what : new int[] {6, 7, 8, 9, 10, 13}) {
            e.due("count(" + what + ")", x.count(what), before.count(what));
        }
        for (int i = 0; i < 15; i++) {
            e.due("person " + i / 5 + " " + i % 5, x.person(i / 5, i % 5), before.person(i / 5, i % 5));
            e.due("left " + i / 5 + " " + i % 5, x.left(i / 5, i % 5), before.left(i / 5, i % 5));
        }
        e.due("the log", x.log(0, 0) * 100 + x.log(0, 1) * 10 + x.log(0, 2), before.log(0, 0) * 100 + before.log(0, 1) * 10 + before.log(0, 2));
        e.due("no further log", x.log(1, 0), NONE);
        e.due("what is no part of an image", x.count(11) * 1000 + x.count(5) * 100 + x.count(12) * 10 + x.count(3), 2032);
        e.due("no act can be undone", x.count(14), 0);
        e.due("none", x.undo(), NONE);
        x.day();
        e.due("who was shaved that day is kept", x.log(0, 1), before.day() * 0 + before.log(0, 1));
        e.due("an act can be undone then", x.undo(), 0);
        // An image of a full LOG: the DAYS behind it do not write over it.
        GuiltyShave y = Edges.made("p;dl1h1");
        y.rumour(0);
        for (int i = 0; i < 3; i++) {
            y.years(30, i);
        }
        e.due("image", y.image(), 90);
        for (int i = 0; i < 6; i++) {
            y.years(30, i);
        }
        e.due("back", y.back(), 90);
        for (int i = 0; i < 60; i++) {
            e.due("log(" + i + ", 2)", y.log(i, 2), 90 - i);
        }
        e.due("log(60, 2)", y.log(60, 2), NONE);
    }

    // ---- what the promises refuse

    private static void refusals(Edges e) {
        e.sentence("What is refused answers as told and changes nothing. The constants: `NONE = -1`: None; refused. `HIDDEN = "
            + "-1000000`: Not told.");
        e.due("NONE", GuiltyShave.NONE, -1);
        e.due("HIDDEN", GuiltyShave.HIDDEN, -1000000);
        Edges.Story forty = Edges.both(Edges::busy, x -> {
            for (int i = 0; i < 45; i++) {
                x.give(1);
            }
        });
        e.leaves("a refused act does not push the oldest out", forty, x -> x.commit(0, 0), NONE);
        e.leaves("nor a sale", forty, x -> x.sell(0, 0, 0), NONE);
        e.leaves("nor an atonement", forty, x -> x.atone(1, 1), NONE);
        e.leaves("nor a walk to the barber", forty, x -> x.shave(1), NONE);
        e.leaves("nor a gift", forty, x -> x.give(51), NONE);
        e.leaves("nor years", forty, x -> x.years(31, 1), NONE);
        e.leaves("nor a week", forty, x -> x.perform(1), NONE);
        e.leaves("nor a week whose first step can't be", forty, x -> x.perform(0), 0);
    }

    /** None of these people and deeds is there, in a TOWN of three and three. */
    private static final int[] NOBODY = {DEEP, -2, -1, 3, 6, 8, 32, FAR};

    private static void refusedDeeds(Edges e) {
        e.sentence("0 BEARD, 1 SHAME, 2 WISH, 3 how often SHAVED, 4 whether he went to be SHAVED that DAY (1, 0), as now. "
            + "NoSuchElementException: no such ones.");
        int[][] shown = {{5, 3, 1, 0, 0}, {1, 5, 0, 0, 1}, {1, 0, 6, 1, 0}};
        for (int p = 0; p < 3; p++) {
            for (int what = 0; what < 5; what++) {
                int person = p;
                int asked = what;
                e.leaves("person(" + p + ", " + what + ")", Edges::busy, x -> Edges.personOf(x, person, asked), shown[p][what]);
            }
        }
        for (int nobody : NOBODY) {
            e.leaves("person(" + nobody + ", 0)", Edges::busy, x -> Edges.personOf(x, nobody, 0), Edges.THROWN);
        }
        for (int what : new int[] {DEEP, -1, 5, 6, FAR}) {
            e.leaves("person(0, " + what + ")", Edges::busy, x -> Edges.personOf(x, 0, what), Edges.THROWN);
        }
        e.leaves("no town", Edges::townless, x -> Edges.personOf(x, 0, 0), Edges.THROWN);

        e.sentence("Of a DEED: 0 how HEAVY, 1 HARM, 2 how long it LASTS. NONE: no such ones.");
        int[][] told = {{3, 2, 2}, {6, 5, 9}, {2, 1, 1}};
        for (int d = 0; d < 3; d++) {
            for (int what = 0; what < 3; what++) {
                int deed = d;
                int asked = what;
                e.leaves("deed(" + d + ", " + what + ")", Edges::busy, x -> x.deed(deed, asked), told[d][what]);
            }
        }
        for (int none : NOBODY) {
            e.leaves("deed(" + none + ", 0)", Edges::busy, x -> x.deed(none, 0), NONE);
            e.leaves("deed(0, " + none + ")", Edges::busy, x -> x.deed(0, none), NONE);
        }
        e.leaves("no town", Edges::townless, x -> x.deed(0, 0), NONE);

        e.sentence("`int left(int person, int deed)`: LEFT (0: he HAS it not). NONE: no such ones.");
        int[][] left = {{1, 9, 0}, {0, 0, 1}, {0, 8, 0}};
        for (int i = 0; i < 9; i++) {
            int asked = i;
            e.leaves("left(" + i / 3 + ", " + i % 3 + ")", Edges::busy, x -> x.left(asked / 3, asked % 3), left[i / 3][i % 3]);
        }
        for (int none : NOBODY) {
            e.leaves("left(" + none + ", 0)", Edges::busy, x -> x.left(none, 0), NONE);
            e.leaves("left(0, " + none + ")", Edges::busy, x -> x.left(0, none), NONE);
        }
        e.leaves("no town", Edges::townless, x -> x.left(0, 0), NONE);

        e.sentence("`int commit(int person, int deed)`: He does it: GUILT then. NONE: no such ones, he HAS it.");
        for (int none : NOBODY) {
            e.leaves("commit(" + none + ", 0)", Edges::busy, x -> x.commit(none, 0), NONE);
            e.leaves("commit(0, " + none + ")", Edges::busy, x -> x.commit(0, none), NONE);
        }
        e.leaves("he has it", Edges::busy, x -> x.commit(0, 0), NONE);
        e.leaves("no town", Edges::townless, x -> x.commit(0, 0), NONE);
        e.answers("the last of each", Edges::busy, x -> x.commit(2, 2), 8);
    }

    private static void refusedSales(Edges e) {
        e.sentence("NONE: no such ones, alike, the first HAS it not, the other HAS it, too few COINS.");
        for (int none : NOBODY) {
            e.leaves("sell(" + none + ", 1, 0)", Edges::busy, x -> x.sell(none, 1, 0), NONE);
            e.leaves("sell(0, " + none + ", 0)", Edges::busy, x -> x.sell(0, none, 0), NONE);
            e.leaves("sell(0, 1, " + none + ")", Edges::busy, x -> x.sell(0, 1, none), NONE);
        }
        e.leaves("alike", Edges::busy, x -> x.sell(0, 0, 0), NONE);
        e.leaves("the first has it not", Edges::busy, x -> x.sell(1, 0, 0), NONE);
        e.leaves("the other has it", Edges::busy, x -> x.sell(0, 2, 1), NONE);
        e.leaves("no town", Edges::townless, x -> x.sell(0, 1, 0), NONE);
        e.answers("sold", Edges::busy, x -> x.sell(0, 1, 1), 9);
        e.answers("sold by the last", Edges::busy, x -> x.sell(2, 1, 1), 8);
        Edges.Story spent = Edges.both(Edges.town("sc1;p;p;d;d"), x -> {
            x.commit(0, 0);
            x.commit(0, 1);
            x.sell(0, 1, 0);
        });
        e.leaves("too few coins", spent, x -> x.sell(0, 1, 1), NONE);
        e.answers("one more is enough", Edges.both(spent, x -> x.give(1)), x -> x.sell(0, 1, 1), 5);

        e.sentence("`int atone(int person, int deed)`: ATONED: GUILT then. NONE: no such ones, he HAS it not, too few COINS.");
        for (int none : NOBODY) {
            e.leaves("atone(" + none + ", 0)", Edges::busy, x -> x.atone(none, 0), NONE);
            e.leaves("atone(0, " + none + ")", Edges::busy, x -> x.atone(0, none), NONE);
        }
        e.leaves("he has it not", Edges::busy, x -> x.atone(1, 0), NONE);
        e.leaves("no town", Edges::townless, x -> x.atone(0, 0), NONE);
        e.answers("atoned", Edges::busy, x -> x.atone(0, 1), 3);
        Edges.Story one = Edges.both(Edges.town("sc1;p;d"), x -> x.commit(0, 0));
        e.leaves("too few coins", one, x -> x.atone(0, 0), NONE);
        e.answers("one more is enough", Edges.both(one, x -> x.give(1)), x -> x.atone(0, 0), 0);
    }

    private static void refusedWalks(Edges e) {
        e.sentence("He goes to be SHAVED: 1 SHAVED, 0 NICKED. NONE: no such PERSON, he went that DAY.");
        for (int nobody : NOBODY) {
            e.leaves("shave(" + nobody + ")", Edges::busy, x -> x.shave(nobody), NONE);
        }
        e.leaves("he went that day", Edges::busy, x -> x.shave(1), NONE);
        e.leaves("no town", Edges::townless, x -> x.shave(0), NONE);
        e.answers("shaved", Edges::busy, x -> x.shave(0), 1);
        e.answers("the last", Edges::busy, x -> x.shave(2), 1);
        e.answers("nicked", Edges.town("p;d"), x -> x.shave(0), 0);

        e.sentence("`boolean rumour(int v)`: RUMOUR (0 .. 9). False: out of bounds, it is so.");
        for (int v : new int[] {DEEP, -1, 10, 11, FAR}) {
            e.leaves("rumour(" + v + ")", Edges::busy, x -> Edges.bit(x.rumour(v)), 0);
        }
        for (int v = 0; v <= 9; v++) {
            int told = v;
            if (v == 6) {
                e.leaves("rumour(6) is so", Edges::busy, x -> Edges.bit(x.rumour(6)), 0);
            } else {
                e.answers("rumour(" + v + ")", Edges::busy, x -> Edges.bit(x.rumour(told)) * 10 + x.count(11), 10 + v);
                e.answers("once more", Edges::busy, x -> Edges.bit(x.rumour(told)) * 10 + Edges.bit(x.rumour(told)), 10);
            }
        }
        e.leaves("five is so at first", x -> { }, x -> Edges.bit(x.rumour(5)), 0);
        e.answers("without a town", Edges::townless, x -> Edges.bit(x.rumour(0)) * 10 + x.count(11), 10);
    }

    private static void refusedGifts(Edges e) {
        e.sentence("`int give(int n)`: COINS are given: COINS then. NONE: no TOWN, out of bounds, above 999.");
        e.leaves("no town", Edges::townless, x -> x.give(1), NONE);
        e.leaves("give(0)", Edges::busy, x -> x.give(0), NONE);
        e.leaves("give(51)", Edges::busy, x -> x.give(51), NONE);
        e.answers("give(1)", Edges::busy, x -> x.give(1), Edges.made(Edges::busy).count(7) + 1);
        Edges.Story rich = x -> {
            Texts.tell(x, 0, "sc99;p;d");
            for (int i = 0; i < 17; i++) {
                x.give(50);
            }
            x.give(49);
        };
        e.answers("998 and 1", rich, x -> x.give(1), 999);
        e.leaves("998 and 2", rich, x -> x.give(2), NONE);
    }

    private static void refusedDays(Edges e) {
        e.sentence("`int day()`: A DAY: how many were SMOOTH. NONE: no TOWN, beyond 999.");
        e.leaves("no town", Edges::townless, x -> x.day(), NONE);
        for (int smooth = 0; smooth <= 6; smooth++) {
            String town = "pb0;".repeat(smooth) + "pb1;".repeat(6 - smooth) + "d";
            e.answers("smooth in " + town, Edges.town(town), x -> x.day(), smooth);
        }
        Edges.Story at998 = Edges.both(Edges.town("p;d"), x -> Edges.pass(x, 998));
        e.answers("to 999", at998, x -> x.day(), 0);
        e.leaves("beyond 999", Edges.both(at998, x -> x.day()), x -> x.day(), NONE);

        e.sentence("`int years(int n, long seed)`: YEARS: the DAY. NONE: no TOWN, out of bounds, beyond 999.");
        e.leaves("no town", Edges::townless, x -> x.years(1, 1), NONE);
        e.leaves("years(0, 1)", Edges::busy, x -> x.years(0, 1), NONE);
        e.leaves("years(31, 1)", Edges::busy, x -> x.years(31, 1), NONE);
        for (int day : new int[] {968, 969, 970, 997, 998, 999}) {
            Edges.Story story = Edges.both(Edges.town("p;d"), x -> Edges.pass(x, day));
            for (int n : new int[] {1, 2, 29, 30}) {
                if (day + n <= 999) {
                    e.answers("years(" + n + ") on " + day, story, x -> x.years(n, 1), day + n);
                } else {
                    e.leaves("years(" + n + ") on " + day, story, x -> x.years(n, 1), NONE);
                }
            }
        }
    }

    private static void refusedLooks(Edges e) {
        e.sentence("LOG, the latest (i 0), the one ahead of it (1) ..: 0 SMOOTH, 1 SHAVED, 2 HARM. NONE: no such ones.");
        Edges.Story two = Edges.both(Edges::busy, x -> x.day());
        for (int i : new int[] {DEEP, -1, 2, 3, 59, 60, FAR}) {
            e.leaves("log(" + i + ", 0)", two, x -> x.log(i, 0), NONE);
        }
        for (int what : new int[] {DEEP, -1, 3, 4, FAR}) {
            e.leaves("log(0, " + what + ")", two, x -> x.log(0, what), NONE);
        }
        int[][] due = {{0, 0, 13}, {6, 4, 7}};
        for (int i = 0; i < 6; i++) {
            int asked = i;
            e.leaves("log(" + i / 3 + ", " + i % 3 + ")", two, x -> x.log(asked / 3, asked % 3), due[i / 3][i % 3]);
        }
        e.leaves("no town", Edges::townless, x -> x.log(0, 0), NONE);
        e.leaves("no day yet", Edges.town("p;d"), x -> x.log(0, 0), NONE);
        Edges.Story full = Edges.both(Edges.town("p;d"), x -> Edges.pass(x, 61));
        e.leaves("log(59, 0) of sixty", full, x -> x.log(59, 0), 0);
        e.leaves("log(60, 0) of sixty", full, x -> x.log(60, 0), NONE);
    }

    private static void refusedWeeks(Edges e) {
        e.sentence("RUN: behind how many (0; NONE: all can be), HARM (1). HIDDEN: no such ones, no TOWN.");
        for (int none : new int[] {DEEP, -1, 1, 3, 4, FAR}) {
            e.leaves("run(" + none + ", 0)", Edges::busy, x -> x.run(none, 0), HIDDEN);
        }
        for (int what : new int[] {DEEP, -1, 2, 3, FAR}) {
            e.leaves("run(0, " + what + ")", Edges::busy, x -> x.run(0, what), HIDDEN);
        }
        e.leaves("no town", Edges::townless, x -> x.run(0, 0), HIDDEN);
        e.leaves("no town", Edges::townless, x -> x.run(0, 1), HIDDEN);
        e.leaves("no week", Edges.town("p;d"), x -> x.run(0, 0), HIDDEN);
        e.leaves("all can be", week("p;d", "n"), x -> x.run(0, 0), NONE);

        e.sentence("DO: how many STEPS were done. NONE: no such WEEK, no TOWN.");
        for (int none : new int[] {DEEP, -1, 1, 3, 4, FAR}) {
            e.leaves("perform(" + none + ")", Edges::busy, x -> x.perform(none), NONE);
        }
        e.leaves("no town", Edges::townless, x -> x.perform(0), NONE);
        e.leaves("no week", Edges.town("p;d"), x -> x.perform(0), NONE);
        e.answers("the fourth week", x -> {
            Texts.tell(x, 0, "p;d");
            Texts.tell(x, 2, "s0");
            Texts.tell(x, 2, "s0");
            Texts.tell(x, 2, "s0");
            Texts.tell(x, 2, "n;n");
        }, x -> x.perform(3), 2);
    }

    private static void refusedImages(Edges e) {
        e.sentence("`int image()`: An IMAGE (instead of the one ahead): the DAY. NONE: no TOWN.");
        e.leaves("no town", Edges::townless, x -> x.image(), NONE);
        e.answers("day 0", Edges.town("p;d"), x -> x.image(), 0);
        e.answers("day 1", Edges::busy, x -> x.image(), 1);
        e.answers("day 999", Edges.both(Edges.town("p;d"), x -> Edges.pass(x, 999)), x -> x.image(), 999);
        Edges.Story twice = Edges.both(Edges.town("p;d"), x -> {
            x.day();
            x.image();
            x.day();
            x.image();
            x.day();
        });
        e.answers("instead of the one ahead", twice, x -> x.back(), 2);
        e.answers("no act", twice, x -> x.count(14), 3);

        e.sentence("`int back()`: BACK: the DAY. NONE: no IMAGE of this TOWN.");
        e.leaves("no town", Edges::townless, x -> x.back(), NONE);
        e.leaves("no image", Edges.town("p;d"), x -> x.back(), NONE);
        e.leaves("an image of another town", Edges.both(Edges::busy, x -> Texts.tell(x, 0, "p;d")), x -> x.back(), NONE);
        e.answers("a refused town does not take it away", Edges.both(Edges::busy, x -> Texts.tell(x, 0, "p;dk0")), x -> x.back(), 1);
        e.answers("day 1", Edges.both(twice, x -> Edges.pass(x, 50)), x -> x.back(), 2);
        e.answers("as often as one likes", twice, x -> x.back() * 10 + x.day() * 0 + x.back(), 22);
    }
}
