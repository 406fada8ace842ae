/** The edges of promises 31 to 43: distances, predictions, ranks, totals and measures. */
public final class ForesightEdgeTests extends Bench {

    private static final Steps LONG_CHAIN = chain(0, 0, 0, 0, 0, 0, 0, 0, 0, 0, 0, 0);

    private interface Distance {
        int of(RumourHives x, int rumour, int listener);
    }

    private static void distances(String promise, Distance distance) {
        rumourArgument(promise + "the rumour", (x, rumour) -> distance.of(x, rumour, 0));
        listenerArgument(promise + "the listener", (x, listener) -> distance.of(x, 0, listener));
        test(promise + "neither of them", () -> refused(INDEX, RICH, x -> distance.of(x, 3, 5)));
        test(promise + "no such rumour, and no path: the exception listed first", () ->
                refused(INDEX, RICH, x -> distance.of(x, 3, 4)));
        test(promise + "no such listener, and no spreader: the exception listed first", () ->
                refused(INDEX, RICH, x -> distance.of(x, 1, 5)));
        test(promise + "0 for a spreader", () -> {
            answers(0, RICH, x -> distance.of(x, 0, 0));
            answers(0, RICH, x -> distance.of(x, 0, 1));
        });
        test(promise + "0 for a spreader without links", () ->
                answers(0, ears(9).then(x -> x.startRumour(0, 0)), x -> distance.of(x, 0, 0)));
        test(promise + "1 for a sceptic beside a spreader", () -> answers(1, RICH, x -> distance.of(x, 0, 2)));
        test(promise + "through a sceptic", () -> answers(2, RICH, x -> distance.of(x, 0, 3)));
        test(promise + "of a denied rumour", () -> answers(2, RICH, x -> distance.of(x, 2, 3)));
        test(promise + "no path, without links", () -> refused(ELEMENT, RICH, x -> distance.of(x, 0, 4)));
        test(promise + "no path, from another component", () -> refused(ELEMENT,
                chain(0, 0, 0, 0).then(x -> x.unlink(1, 2)).then(x -> x.startRumour(0, 0)), x -> distance.of(x, 0, 3)));
        test(promise + "no spreader at all", () -> {
            for (int listener = 0; listener < 5; listener++) {
                int one = listener;
                refused(ELEMENT, RICH, x -> distance.of(x, 1, one));
            }
        });
        test(promise + "the greatest, 11, up and down", () -> {
            answers(11, LONG_CHAIN.then(x -> x.startRumour(0, 0)), x -> distance.of(x, 0, 11));
            answers(11, LONG_CHAIN.then(x -> x.startRumour(11, 0)), x -> distance.of(x, 0, 0));
        });
        test(promise + "1 where all are linked", () -> {
            answers(1, FULL, x -> distance.of(x, 3, 0));
            answers(1, FULL, x -> distance.of(x, 3, 10));
        });
        test(promise + "the smallest number of links round a ring", () -> {
            Steps ring = LONG_CHAIN.then(x -> x.link(11, 0)).then(x -> x.startRumour(0, 0));
            answers(5, ring, x -> distance.of(x, 0, 5));
            answers(6, ring, x -> distance.of(x, 0, 6));
            answers(5, ring, x -> distance.of(x, 0, 7));
            answers(1, ring, x -> distance.of(x, 0, 11));
        });
        test(promise + "a short cut of one link less", () -> {
            Steps way = chain(0, 0, 0, 0).then(x -> x.startRumour(0, 0));
            answers(3, way, x -> distance.of(x, 0, 3));
            answers(2, way.then(x -> x.link(0, 2)), x -> distance.of(x, 0, 3));
        });
        test(promise + "to the nearest of two spreaders", () -> {
            Steps two = LONG_CHAIN.then(x -> {
                x.link(11, 0);
                x.startRumour(0, 9);
                x.advance(1);
                x.unlink(11, 0);
            });
            answers(5, two, x -> distance.of(x, 0, 6));
            answers(4, two, x -> distance.of(x, 0, 7));
            answers(1, two, x -> distance.of(x, 0, 2));
        });
    }

    private static void promise33() {
        rumourArgument("33: the rumour", RumourHives::nextSpreaders);
        test("33: 0 for a denied rumour", () -> {
            Steps near = chain(0, 0).then(x -> x.startRumour(0, 9));
            answers(1, near, x -> x.nextSpreaders(0));
            answers(0, near.then(x -> x.deny(0)), x -> x.nextSpreaders(0));
            answers(1, near.then(x -> x.deny(0)).then(x -> x.answer(0, 0)), x -> x.nextSpreaders(0));
        });
        test("33: the greatest, 11", () -> {
            Steps all = ears(0, 0, 0, 0, 0, 0, 0, 0, 0, 0, 0, 0).then(linkAll(12));
            answers(11, all.then(x -> x.startRumour(0, 0)), x -> x.nextSpreaders(0));
            answers(11, all.then(x -> x.startRumour(11, 0)), x -> x.nextSpreaders(0));
        });
        test("33: 0 where nobody is unaware", () -> answers(0, FULL, x -> x.nextSpreaders(1)));
        test("33: 0 without spreaders", () -> answers(0, RICH, x -> x.nextSpreaders(1)));
        test("33: 0 where the unaware are not linked with a spreader", () -> answers(0, RICH, x -> x.nextSpreaders(0)));
        test("33: a doubt just below, equal and just above", () -> {
            for (int doubt = 4; doubt <= 6; doubt++) {
                answers(doubt < 6 ? 1 : 0, chain(0, doubt).then(x -> x.startRumour(0, 5)), x -> x.nextSpreaders(0));
            }
        });
        test("33: all spreaders among the neighbours count", () -> {
            Steps two = chain(0, 0).then(x -> {
                x.startRumour(0, 3);
                x.advance(1);
                x.addListener(0, 4);
                x.link(2, 0);
            });
            answers(0, two, x -> x.nextSpreaders(0));
            answers(1, two.then(x -> x.link(2, 1)), x -> x.nextSpreaders(0));
        });
        test("33: those who would hear it at the same time do not count", () ->
                answers(1, ears(0, 4, 5).then(linkAll(3)).then(x -> x.startRumour(0, 4)), x -> x.nextSpreaders(0)));
        test("33: a prediction changes nothing", () -> {
            changesNothing(LONG_CHAIN.then(x -> x.startRumour(0, 9)), x -> x.nextSpreaders(0));
            changesNothing(chain(0, 9).then(x -> x.startRumour(0, 4)), x -> x.nextSpreaders(0));
        });
    }

    private static void promise34() {
        rumourArgument("34: the rumour", (x, rumour) -> x.roundsUntilHeard(rumour, 0));
        listenerArgument("34: the listener", (x, listener) -> x.roundsUntilHeard(0, listener));
        test("34: neither of them", () -> refused(INDEX, RICH, x -> x.roundsUntilHeard(3, 5)));
        test("34: no such rumour, and never heard: the exception listed first", () ->
                refused(INDEX, RICH, x -> x.roundsUntilHeard(3, 4)));
        test("34: the starter is not unaware", () -> refused(STATE, RICH, x -> x.roundsUntilHeard(0, 0)));
        test("34: a spreader is not unaware", () -> refused(STATE, RICH, x -> x.roundsUntilHeard(0, 1)));
        test("34: a sceptic is not unaware", () -> refused(STATE, RICH, x -> x.roundsUntilHeard(0, 2)));
        test("34: a sceptic by a check is not unaware", () -> refused(STATE, RICH, x -> x.roundsUntilHeard(1, 3)));
        test("34: a spreader of a denied rumour is not unaware", () ->
                refused(STATE, RICH, x -> x.roundsUntilHeard(2, 1)));
        test("34: still unaware, not linked", () -> refused(ELEMENT, RICH, x -> x.roundsUntilHeard(0, 4)));
        test("34: still unaware, behind a sceptic", () -> refused(ELEMENT, RICH, x -> x.roundsUntilHeard(0, 3)));
        test("34: still unaware, no spreaders", () -> refused(ELEMENT, RICH, x -> x.roundsUntilHeard(1, 2)));
        test("34: still unaware, the rumour is denied", () -> refused(ELEMENT, RICH, x -> x.roundsUntilHeard(2, 0)));
        test("34: still unaware, behind one who will be a sceptic", () ->
                refused(ELEMENT, chain(0, 9, 0).then(x -> x.startRumour(0, 8)), x -> x.roundsUntilHeard(0, 2)));
        test("34: the least, 1", () -> answers(1, LONG_CHAIN.then(x -> x.startRumour(0, 0)), x -> x.roundsUntilHeard(0, 1)));
        test("34: one who will be a sceptic hears it too", () ->
                answers(1, chain(0, 9).then(x -> x.startRumour(0, 0)), x -> x.roundsUntilHeard(0, 1)));
        test("34: the greatest, 11, up and down", () -> {
            answers(11, LONG_CHAIN.then(x -> x.startRumour(0, 0)), x -> x.roundsUntilHeard(0, 11));
            answers(11, LONG_CHAIN.then(x -> x.startRumour(11, 9)), x -> x.roundsUntilHeard(0, 0));
        });
        test("34: rounds from now, not from the start", () ->
                answers(1, LONG_CHAIN.then(x -> x.startRumour(0, 0)).then(x -> x.advance(10)),
                        x -> x.roundsUntilHeard(0, 11)));
        test("34: it agrees with the rounds that come", () -> {
            Steps start = chain(0, 3, 6, 9, 0).then(x -> x.startRumour(0, 9));
            for (int listener = 1; listener < 5; listener++) {
                int one = listener;
                answers(one, start, x -> x.roundsUntilHeard(0, one));
                answers(one - 1, start.then(x -> x.advance(20)), x -> x.heardRound(0, one));
            }
        });
        test("34: a prediction changes nothing", () -> {
            changesNothing(LONG_CHAIN.then(x -> x.startRumour(0, 9)), x -> x.roundsUntilHeard(0, 11));
            changesNothing(chain(0, 9, 9).then(x -> x.startRumour(0, 4)), x -> x.roundsUntilHeard(0, 2));
        });
    }

    private static void promise35() {
        rumourArgument("35: the rumour", (x, rumour) -> x.spreadersAfter(rumour, 1));
        outside("35: the rounds", ARGUMENT, RICH, 0, 40, (x, rounds) -> x.spreadersAfter(0, rounds));
        outside("35: the rounds of a denied rumour", ARGUMENT, RICH, 0, 40, (x, rounds) -> x.spreadersAfter(2, rounds));
        test("35: neither rumour nor rounds: the exception listed first", () -> {
            refused(INDEX, RICH, x -> x.spreadersAfter(3, 41));
            refused(INDEX, RICH, x -> x.spreadersAfter(-1, -1));
            refused(INDEX, NEW, x -> x.spreadersAfter(0, 41));
        });
        test("35: the least rounds, 0, are now", () -> {
            answers(2, RICH, x -> x.spreadersAfter(0, 0));
            answers(1, LONG_CHAIN.then(x -> x.startRumour(0, 0)), x -> x.spreadersAfter(0, 0));
        });
        test("35: the greatest rounds, 40", () ->
                answers(12, LONG_CHAIN.then(x -> x.startRumour(0, 0)), x -> x.spreadersAfter(0, 40)));
        test("35: each round of a long chain", () -> {
            for (int rounds = 0; rounds <= 40; rounds++) {
                int some = rounds;
                answers(Math.min(12, some + 1), LONG_CHAIN.then(x -> x.startRumour(0, 0)),
                        x -> x.spreadersAfter(0, some));
            }
        });
        test("35: the least, 0", () -> answers(0, RICH, x -> x.spreadersAfter(1, 40)));
        test("35: a denied rumour stays", () ->
                answers(1, chain(0, 0).then(x -> x.startRumour(0, 9)).then(x -> x.deny(0)), x -> x.spreadersAfter(0, 40)));
        test("35: sceptics do not count", () ->
                answers(1, chain(0, 9).then(x -> x.startRumour(0, 8)), x -> x.spreadersAfter(0, 40)));
        test("35: it agrees with the rounds that come", () -> {
            Steps start = ears(0, 5, 6, 7, 8, 9, 0, 3).then(x -> {
                x.link(0, 1);
                x.link(1, 2);
                x.link(0, 2);
                x.link(2, 3);
                x.link(3, 4);
                x.link(2, 4);
                x.link(4, 5);
                x.link(5, 6);
                x.link(4, 7);
                x.startRumour(0, 6);
                x.startRumour(6, 9);
            });
            for (int rounds = 1; rounds <= 20; rounds++) {
                int some = rounds;
                for (int rumour = 0; rumour < 2; rumour++) {
                    int one = rumour;
                    answers(after(start.then(x -> x.advance(some))).spreaderCount(one), start,
                            x -> x.spreadersAfter(one, some));
                }
            }
        });
        test("35: a prediction changes nothing", () -> {
            changesNothing(LONG_CHAIN.then(x -> x.startRumour(0, 9)), x -> x.spreadersAfter(0, 40));
            changesNothing(chain(0, 9).then(x -> x.startRumour(0, 4)), x -> x.spreadersAfter(0, 40));
            changesNothing(RICH, x -> x.spreadersAfter(0, 0));
        });
        test("35: a prediction leaves no trace in the next one", () -> {
            Steps foreseen = LONG_CHAIN.then(x -> x.startRumour(0, 9)).then(x -> x.spreadersAfter(0, 40));
            answers(2, foreseen, x -> x.spreadersAfter(0, 1));
            answers(11, foreseen, x -> x.roundsUntilHeard(0, 11));
        });
    }

    private static void promise36() {
        outside("36: the rank, of three", ELEMENT, RICH, 0, 2, RumourHives::rumourBySpread);
        outside("36: the rank, of four", ELEMENT, FULL, 0, 3, RumourHives::rumourBySpread);
        outside("36: the rank, of none", ELEMENT, TWELVE, 0, -1, RumourHives::rumourBySpread);
        test("36: one alone", () -> answers(0, ears(0).then(x -> x.startRumour(0, 0)), x -> x.rumourBySpread(0)));
        test("36: with as many spreaders and all alive, by index", () ->
                rumourOrder("0123", ears(0).then(times(4, x -> x.startRumour(0, 0)))));
        test("36: with as many spreaders and all denied, by index", () ->
                rumourOrder("0123", ears(0).then(x -> {
                    for (int rumour = 0; rumour < 4; rumour++) {
                        x.startRumour(0, 0);
                        x.deny(rumour);
                    }
                })));
        test("36: with as many spreaders the alive ones before the denied", () -> {
            Steps four = ears(0).then(times(4, x -> x.startRumour(0, 0)));
            rumourOrder("1230", four.then(x -> x.deny(0)));
            rumourOrder("1302", four.then(x -> x.deny(0)).then(x -> x.deny(2)));
            rumourOrder("0123", four.then(x -> x.deny(3)));
        });
        test("36: one more spreader goes before being alive", () -> {
            Steps more = chain(0, 0).then(x -> {
                x.startRumour(0, 0);
                x.startRumour(0, 0);
                x.deny(0);
                x.advance(1);
                x.deny(1);
                x.answer(0, 5);
            });
            rumourOrder("10", more);
        });
        test("36: without spreaders last, alive or not", () -> rumourOrder("021", RICH));
        test("36: the strength is of no account", () ->
                rumourOrder("01", ears(0).then(x -> x.startRumour(0, 0)).then(x -> x.startRumour(0, 9))));
    }

    private static void rumourOrder(String due, Steps scene) {
        RumourHives x = after(scene);
        StringBuilder order = new StringBuilder();
        for (int rank = 0; rank < due.length(); rank++) {
            order.append(x.rumourBySpread(rank));
        }
        same("the order", order.toString(), due);
        refused(ELEMENT, scene, y -> y.rumourBySpread(due.length()));
    }

    private static void promise37() {
        outside("37: the rank, of five", ELEMENT, RICH, 0, 4, RumourHives::listenerByGossip);
        outside("37: the rank, of twelve", ELEMENT, FULL, 0, 11, RumourHives::listenerByGossip);
        outside("37: the rank, of none", ELEMENT, NEW, 0, -1, RumourHives::listenerByGossip);
        test("37: one alone", () -> answers(0, ears(9), x -> x.listenerByGossip(0)));
        test("37: all equal, by index", () ->
                listenerOrder("0 1 2 3 4 5 6 7 8 9 10 11", ears(4, 4, 4, 4, 4, 4, 4, 4, 4, 4, 4, 4)));
        test("37: by doubt from 0 to 9, then by index", () ->
                listenerOrder("0 10 1 11 2 3 4 5 6 7 8 9", TWELVE));
        test("37: by doubt against the index", () -> listenerOrder("3 2 1 0", ears(9, 8, 7, 6)));
        test("37: one more rumour goes before the doubt", () ->
                listenerOrder("2 1 0", ears(0, 1, 9).then(x -> {
                    x.startRumour(2, 0);
                    x.startRumour(2, 0);
                    x.startRumour(1, 0);
                })));
        test("37: from none to all four rumours", () ->
                listenerOrder("4 3 2 1 0", ears(0, 1, 2, 3, 4).then(x -> {
                    x.startRumour(4, 9);
                    x.link(4, 3);
                    x.advance(1);
                    x.startRumour(4, 9);
                    x.link(3, 2);
                    x.advance(1);
                    x.startRumour(4, 9);
                    x.link(2, 1);
                    x.advance(1);
                    x.startRumour(4, 9);
                })));
        test("37: denied rumours count, sceptics do not", () ->
                listenerOrder("1 0 2", ears(1, 9, 2).then(x -> {
                    x.startRumour(1, 0);
                    x.startRumour(2, 0);
                    x.deny(0);
                    x.check(1, 2);
                })));
    }

    private static void listenerOrder(String due, Steps scene) {
        RumourHives x = after(scene);
        StringBuilder order = new StringBuilder();
        int count = due.split(" ").length;
        for (int rank = 0; rank < count; rank++) {
            order.append(rank == 0 ? "" : " ").append(x.listenerByGossip(rank));
        }
        same("the order", order.toString(), due);
        refused(ELEMENT, scene, y -> y.listenerByGossip(count));
    }

    private static void promises38To40() {
        test("38: the least, 0", () -> answers(0, TWELVE, RumourHives::round));
        test("38: all rounds of one call", () -> answers(20, TWELVE.then(x -> x.advance(20)), RumourHives::round));
        test("38: a refused call passes none", () ->
                answers(3, TWELVE.then(x -> x.advance(3)).then(x -> outcome(x, y -> y.advance(21))), RumourHives::round));
        test("38: the most rounds that 512 calls can pass", () ->
                answers(10220, times(511, x -> x.advance(20)), RumourHives::round));
        test("39: starts are not counted", () ->
                answers(0, ears(0).then(times(4, x -> x.startRumour(0, 9))), RumourHives::heardTotal));
        test("39: one", () ->
                answers(1, chain(0, 0).then(x -> x.startRumour(0, 9)).then(x -> x.advance(1)), RumourHives::heardTotal));
        test("39: who becomes a sceptic has heard it", () ->
                answers(1, chain(0, 9).then(x -> x.startRumour(0, 0)).then(x -> x.advance(20)), RumourHives::heardTotal));
        test("39: the greatest, 44", () -> answers(44,
                TWELVE.then(linkAll(12)).then(times(4, x -> x.startRumour(7, 5))).then(x -> x.advance(20)),
                RumourHives::heardTotal));
        test("39: a denied rumour is not heard", () -> answers(0,
                chain(0, 0).then(x -> x.startRumour(0, 9)).then(x -> x.deny(0)).then(x -> x.advance(20)),
                RumourHives::heardTotal));
        test("39: a prediction is not heard", () -> answers(0,
                chain(0, 0).then(x -> x.startRumour(0, 9)).then(x -> x.spreadersAfter(0, 40)), RumourHives::heardTotal));
        test("40: the least, 0", () -> answers(0, TWELVE, RumourHives::successfulChecks));
        test("40: a check without effect is not counted", () ->
                answers(0, ears(5).then(x -> x.startRumour(0, 5)).then(times(3, x -> x.check(0, 0))),
                        RumourHives::successfulChecks));
        test("40: a refused check is not counted", () ->
                answers(1, RICH.then(x -> outcome(x, y -> y.check(1, 3))), RumourHives::successfulChecks));
        test("40: who becomes a sceptic by hearing is not counted", () ->
                answers(0, chain(0, 9).then(x -> x.startRumour(0, 0)).then(x -> x.advance(1)),
                        RumourHives::successfulChecks));
        test("40: one of a denied rumour is counted", () ->
                answers(2, RICH.then(x -> x.deny(0)).then(x -> x.answer(0, 2)).then(x -> x.deny(0))
                        .then(x -> x.check(0, 1)), RumourHives::successfulChecks));
        test("40: the greatest, 48", () -> answers(48,
                ears(9, 9, 9, 9, 9, 9, 9, 9, 9, 9, 9, 9).then(linkAll(12)).then(times(4, x -> x.startRumour(0, 9)))
                        .then(x -> x.advance(1)).then(ForesightEdgeTests::checkAll), RumourHives::successfulChecks));
    }

    private static void checkAll(RumourHives x) {
        for (int rumour = 0; rumour < 4; rumour++) {
            x.deny(rumour);
            x.answer(rumour, 8);
            for (int listener = 0; listener < 12; listener++) {
                x.check(rumour, listener);
            }
        }
    }

    private static void promises41To43() {
        test("41: no listeners", () -> refused(ARITHMETIC, NEW, RumourHives::meanDoubt));
        test("41: no listeners after rounds", () -> refused(ARITHMETIC, NEW.then(x -> x.advance(20)), RumourHives::meanDoubt));
        test("41: no listeners any more", () -> refused(ARITHMETIC, ears(5).then(RumourHives::undo), RumourHives::meanDoubt));
        test("41: the least, 0", () -> answers(0.0, ears(0, 0, 0), RumourHives::meanDoubt));
        test("41: the greatest, 9", () -> answers(9.0, ears(9, 9, 9, 9, 9, 9, 9, 9, 9, 9, 9, 9), RumourHives::meanDoubt));
        test("41: one listener", () -> answers(7.0, ears(7), RumourHives::meanDoubt));
        test("41: nothing is rounded down", () -> answers(0.5, ears(0, 1), RumourHives::meanDoubt));
        test("41: no less exact than a double", () -> {
            answers(1.0 / 3.0, ears(0, 0, 1), RumourHives::meanDoubt);
            answers(46.0 / 12.0, TWELVE, RumourHives::meanDoubt);
        });
        test("42: no listeners", () -> refused(ARITHMETIC, NEW, RumourHives::gossipShare));
        test("42: no listeners any more", () ->
                refused(ARITHMETIC, ears(5).then(RumourHives::undo), RumourHives::gossipShare));
        test("42: the least, 0, without rumours", () -> answers(0.0f, TWELVE, RumourHives::gossipShare));
        test("42: the least, 0, with sceptics alone", () ->
                answers(0.0f, ears(9, 9).then(x -> x.startRumour(0, 0)).then(x -> x.check(0, 0)), RumourHives::gossipShare));
        test("42: the greatest, 1", () -> answers(1.0f, FULL, RumourHives::gossipShare));
        test("42: one listener", () -> answers(1.0f, ears(9).then(x -> x.startRumour(0, 0)), RumourHives::gossipShare));
        test("42: one who spreads four rumours counts once", () ->
                answers(1.0f / 3.0f, ears(0, 0, 0).then(times(4, x -> x.startRumour(1, 5))), RumourHives::gossipShare));
        test("42: the first and the last rumour count", () -> answers(1.0f / 6.0f, TWELVE.then(x -> {
            x.startRumour(0, 5);
            x.startRumour(0, 5);
            x.startRumour(0, 5);
            x.startRumour(11, 5);
        }), RumourHives::gossipShare));
        test("42: a denied rumour is spread by its spreaders", () ->
                answers(1.0f / 12.0f, TWELVE.then(x -> x.startRumour(0, 5)).then(x -> x.deny(0)), RumourHives::gossipShare));
        test("43: empty", () -> answers(true, NEW, RumourHives::isConsistent));
        test("43: full", () -> answers(true, FULL, RumourHives::isConsistent));
        test("43: with listeners who no spreader can reach", () -> answers(true, RICH, RumourHives::isConsistent));
        test("43: after undo and restore", () -> {
            answers(true, RICH.then(RumourHives::undo), RumourHives::isConsistent);
            answers(true, RICH.then(RumourHives::restore), RumourHives::isConsistent);
        });
        test("38 to 43: looking changes nothing", () -> {
            changesNothing(RICH, RumourHives::round);
            changesNothing(RICH, RumourHives::heardTotal);
            changesNothing(RICH, RumourHives::successfulChecks);
            changesNothing(RICH, RumourHives::meanDoubt);
            changesNothing(RICH, RumourHives::gossipShare);
            changesNothing(RICH, RumourHives::isConsistent);
        });
    }

    public static void main(String[] args) {
        distances("31: ", RumourHives::distance);
        distances("32: ", RumourHives::distanceByRelaxation);
        promise33();
        promise34();
        promise35();
        promise36();
        promise37();
        promises38To40();
        promises41To43();
        finish();
    }
}
