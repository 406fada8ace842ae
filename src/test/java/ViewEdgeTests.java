/** The edges of promises 20 to 30: what rumours are and how far they have spread. */
public final class ViewEdgeTests extends Bench {

    /** Twelve listeners who are all sceptics of rumour 0. */
    private static final Steps ALL_SCEPTICS = ears(9, 9, 9, 9, 9, 9, 9, 9, 9, 9, 9, 9).then(linkAll(12)).then(x -> {
        x.startRumour(0, 0);
        x.advance(1);
        x.check(0, 0);
    });

    /** A listener in each of the given hives, all of them spreaders of rumour 0. */
    private static Steps spreadersIn(int... hives) {
        return x -> {
            for (int hive : hives) {
                x.addListener(hive, 0);
            }
            linkAll(hives.length).on(x);
            x.startRumour(0, 0);
            x.advance(1);
        };
    }

    private static Steps started(int strength) {
        return ears(9).then(x -> x.startRumour(0, strength));
    }

    private static void promises20To23() {
        test("20: the least, 0", () -> answers(0, TWELVE, RumourHives::rumourCount));
        test("20: the greatest, 4", () -> answers(4, FULL, RumourHives::rumourCount));
        test("20: denied ones and those without spreaders count", () -> answers(3, RICH, RumourHives::rumourCount));
        rumourArgument("21: the rumour", RumourHives::strength);
        test("21: the least, 0", () -> answers(0, started(0), x -> x.strength(0)));
        test("21: the greatest, 9", () -> answers(9, started(9), x -> x.strength(0)));
        test("21: the last rumour", () -> answers(7, FULL, x -> x.strength(3)));
        rumourArgument("22: the rumour", RumourHives::isAlive);
        test("22: a new one", () -> answers(true, started(0), x -> x.isAlive(0)));
        test("22: with strength 0 after many rounds", () ->
                answers(true, started(0).then(x -> x.advance(20)), x -> x.isAlive(0)));
        test("22: without spreaders", () -> answers(true, RICH, x -> x.isAlive(1)));
        test("22: a denied one", () -> answers(false, RICH, x -> x.isAlive(2)));
        test("22: an answered one", () -> answers(true, RICH.then(x -> x.answer(2, 0)), x -> x.isAlive(2)));
        rumourArgument("23: the rumour", RumourHives::starter);
        test("23: the first listener", () -> answers(0, FULL, x -> x.starter(0)));
        test("23: the last listener", () -> answers(11, FULL, x -> x.starter(3)));
        test("23: who is a sceptic by now", () -> answers(3, RICH, x -> x.starter(1)));
        test("23: of a denied rumour", () -> answers(1, RICH, x -> x.starter(2)));
    }

    private static void promises24And25() {
        rumourArgument("24: the rumour", (x, rumour) -> x.isSpreader(rumour, 0));
        listenerArgument("24: the listener", (x, listener) -> x.isSpreader(0, listener));
        test("24: neither of them", () -> refused(INDEX, RICH, x -> x.isSpreader(3, 5)));
        test("24: a listener without rumours", () -> refused(INDEX, RICH, x -> x.isSpreader(3, 4)));
        test("24: the starter", () -> answers(true, RICH, x -> x.isSpreader(0, 0)));
        test("24: a believer", () -> answers(true, RICH, x -> x.isSpreader(0, 1)));
        test("24: a sceptic", () -> answers(false, RICH, x -> x.isSpreader(0, 2)));
        test("24: a sceptic by a check", () -> answers(false, RICH, x -> x.isSpreader(1, 3)));
        test("24: an unaware one", () -> answers(false, RICH, x -> x.isSpreader(0, 3)));
        test("24: of a denied rumour", () -> answers(true, RICH, x -> x.isSpreader(2, 1)));
        test("24: the last rumour and the last listener", () -> {
            answers(true, FULL, x -> x.isSpreader(3, 11));
            answers(false, FULL, x -> x.isSpreader(3, 10));
        });
        rumourArgument("25: the rumour", (x, rumour) -> x.isSceptic(rumour, 0));
        listenerArgument("25: the listener", (x, listener) -> x.isSceptic(0, listener));
        test("25: neither of them", () -> refused(INDEX, RICH, x -> x.isSceptic(3, 5)));
        test("25: the starter", () -> answers(false, RICH, x -> x.isSceptic(0, 0)));
        test("25: a sceptic", () -> answers(true, RICH, x -> x.isSceptic(0, 2)));
        test("25: a sceptic by a check", () -> answers(true, RICH, x -> x.isSceptic(1, 3)));
        test("25: an unaware one", () -> answers(false, RICH, x -> x.isSceptic(0, 3)));
        test("25: of a denied rumour", () -> answers(true, RICH.then(x -> x.deny(0)), x -> x.isSceptic(0, 2)));
        test("25: the last listener", () -> answers(true, ALL_SCEPTICS, x -> x.isSceptic(0, 11)));
    }

    private static void promise26() {
        rumourArgument("26: the rumour", (x, rumour) -> x.heardRound(rumour, 0));
        listenerArgument("26: the listener", (x, listener) -> x.heardRound(0, listener));
        test("26: neither of them", () -> refused(INDEX, RICH, x -> x.heardRound(3, 5)));
        test("26: no such rumour, and nobody heard it: the exception listed first", () ->
                refused(INDEX, RICH, x -> x.heardRound(3, 4)));
        test("26: an unaware listener", () -> refused(ELEMENT, RICH, x -> x.heardRound(0, 3)));
        test("26: an unaware listener who is not linked", () -> refused(ELEMENT, RICH, x -> x.heardRound(0, 4)));
        test("26: unaware of this rumour, aware of another", () -> refused(ELEMENT, RICH, x -> x.heardRound(2, 0)));
        test("26: unaware of a denied rumour", () -> refused(ELEMENT, RICH, x -> x.heardRound(2, 2)));
        test("26: the starter at the least round, 0", () -> answers(0, RICH, x -> x.heardRound(0, 0)));
        test("26: the counter before the round of the first hearing", () -> answers(0, RICH, x -> x.heardRound(0, 1)));
        test("26: the counter before the second round, for a sceptic", () -> answers(1, RICH, x -> x.heardRound(0, 2)));
        test("26: the counter at the start, for a later starter", () -> answers(2, RICH, x -> x.heardRound(1, 3)));
        test("26: a check leaves it", () -> {
            Steps heard = chain(0, 3).then(x -> x.startRumour(0, 3)).then(x -> x.advance(20));
            answers(0, heard.then(x -> x.check(0, 1)), x -> x.heardRound(0, 1));
            answers(true, heard.then(x -> x.check(0, 1)), x -> x.isSceptic(0, 1));
        });
        test("26: one call of 20 rounds counts each of them", () -> {
            RumourHives x = after(chain(0, 0, 0, 0, 0, 0, 0, 0, 0, 0, 0, 0).then(y -> {
                y.advance(20);
                y.startRumour(0, 0);
                y.advance(20);
            }));
            same("the starter", x.heardRound(0, 0), 20);
            for (int listener = 1; listener < 12; listener++) {
                same("listener " + listener, x.heardRound(0, listener), 19 + listener);
            }
        });
        test("26: rounds of each rumour apart", () -> {
            Steps two = chain(0, 0, 0).then(x -> {
                x.startRumour(0, 9);
                x.advance(1);
                x.startRumour(0, 9);
                x.advance(2);
            });
            answers(0, two, x -> x.heardRound(0, 1));
            answers(1, two, x -> x.heardRound(1, 1));
            answers(1, two, x -> x.heardRound(0, 2));
            answers(2, two, x -> x.heardRound(1, 2));
        });
        test("26: a prediction leaves it", () -> {
            Steps foreseen = chain(0, 0).then(x -> {
                x.startRumour(0, 9);
                x.spreadersAfter(0, 40);
                x.roundsUntilHeard(0, 1);
            });
            refused(ELEMENT, foreseen, x -> x.heardRound(0, 1));
            answers(3, foreseen.then(x -> {
                x.deny(0);
                x.advance(3);
                x.answer(0, 9);
                x.advance(1);
            }), x -> x.heardRound(0, 1));
        });
    }

    private static void promises27And28() {
        rumourArgument("27: the rumour", RumourHives::spreaderCount);
        test("27: the least, 0", () -> answers(0, RICH, x -> x.spreaderCount(1)));
        test("27: 1 after the start", () -> answers(1, started(5), x -> x.spreaderCount(0)));
        test("27: the greatest, 12", () -> answers(12, FULL, x -> x.spreaderCount(1)));
        test("27: sceptics and unaware listeners do not count", () -> answers(2, RICH, x -> x.spreaderCount(0)));
        test("27: a denied rumour keeps its spreaders", () -> answers(1, RICH, x -> x.spreaderCount(2)));
        rumourArgument("28: the rumour", RumourHives::scepticCount);
        test("28: the least, 0", () -> answers(0, started(5), x -> x.scepticCount(0)));
        test("28: one by hearing", () -> answers(1, RICH, x -> x.scepticCount(0)));
        test("28: one by a check", () -> answers(1, RICH, x -> x.scepticCount(1)));
        test("28: the greatest, 12", () -> {
            answers(12, ALL_SCEPTICS, x -> x.scepticCount(0));
            answers(0, ALL_SCEPTICS, x -> x.spreaderCount(0));
        });
        test("28: a denied rumour keeps its sceptics", () ->
                answers(1, RICH.then(x -> x.deny(0)), x -> x.scepticCount(0)));
    }

    private static void promise29() {
        rumourArgument("29: the rumour", RumourHives::countedHive);
        test("29: a rumour without spreaders is counted in no hive", () ->
                refused(ELEMENT, RICH, x -> x.countedHive(1)));
        test("29: twelve sceptics, in no hive", () -> refused(ELEMENT, ALL_SCEPTICS, x -> x.countedHive(0)));
        test("29: a denied rumour without spreaders", () ->
                refused(ELEMENT, RICH.then(x -> x.deny(1)), x -> x.countedHive(1)));
        test("29: the only one", () -> {
            for (int hive = 0; hive < 4; hive++) {
                int one = hive;
                answers(one, spreadersIn(hive), x -> x.countedHive(0));
            }
        });
        test("29: of four hives with as many the lowest", () ->
                answers(0, spreadersIn(3, 2, 1, 0), x -> x.countedHive(0)));
        test("29: of three hives with as many the lowest", () ->
                answers(1, spreadersIn(3, 2, 1), x -> x.countedHive(0)));
        test("29: of two hives with as many the lowest", () -> {
            answers(2, spreadersIn(3, 2), x -> x.countedHive(0));
            answers(0, spreadersIn(3, 0), x -> x.countedHive(0));
        });
        test("29: of two hives with as many the lowest, though a lower one has fewer", () ->
                answers(1, spreadersIn(0, 3, 1, 3, 1), x -> x.countedHive(0)));
        test("29: one more in the highest hive", () -> answers(3, spreadersIn(0, 1, 2, 3, 3), x -> x.countedHive(0)));
        test("29: one more in the lowest hive", () -> answers(0, spreadersIn(0, 0, 1, 2, 3), x -> x.countedHive(0)));
        test("29: all twelve in the highest hive", () ->
                answers(3, spreadersIn(3, 3, 3, 3, 3, 3, 3, 3, 3, 3, 3, 3), x -> x.countedHive(0)));
        test("29: who are no spreaders do not count", () -> answers(3, x -> {
            x.addListener(0, 9);
            x.addListener(0, 9);
            x.addListener(0, 0);
            x.addListener(3, 0);
            x.link(3, 0);
            x.link(3, 1);
            x.startRumour(3, 0);
            x.advance(1);
        }, x -> x.countedHive(0)));
        test("29: the hives of now count", () ->
                answers(2, spreadersIn(1, 1, 0).then(x -> {
                    x.moveListener(0, 2);
                    x.moveListener(1, 2);
                }), x -> x.countedHive(0)));
    }

    private static void promise30() {
        rumourArgument("30: the rumour", (x, rumour) -> x.spreadersInHive(rumour, 0));
        hiveArgument("30: the hive", INDEX, (x, hive) -> x.spreadersInHive(0, hive));
        outside("30: the hive, of a rumour without spreaders", INDEX, RICH, 0, 3, (x, hive) -> x.spreadersInHive(1, hive));
        test("30: neither of them", () -> refused(INDEX, RICH, x -> x.spreadersInHive(3, 4)));
        test("30: the least, 0, in a hive without listeners", () -> answers(0, RICH, x -> x.spreadersInHive(0, 2)));
        test("30: the least, 0, in a hive of unaware listeners", () -> answers(0, RICH, x -> x.spreadersInHive(0, 3)));
        test("30: sceptics and unaware listeners do not count", () -> {
            answers(1, RICH, x -> x.spreadersInHive(0, 0));
            answers(1, RICH, x -> x.spreadersInHive(0, 1));
        });
        test("30: the greatest, 12, in the least and the greatest hive", () -> {
            answers(12, spreadersIn(0, 0, 0, 0, 0, 0, 0, 0, 0, 0, 0, 0), x -> x.spreadersInHive(0, 0));
            answers(12, spreadersIn(3, 3, 3, 3, 3, 3, 3, 3, 3, 3, 3, 3), x -> x.spreadersInHive(0, 3));
            answers(0, spreadersIn(3, 3, 3, 3, 3, 3, 3, 3, 3, 3, 3, 3), x -> x.spreadersInHive(0, 2));
        });
        test("30: of a denied rumour", () -> answers(1, RICH, x -> x.spreadersInHive(2, 1)));
    }

    public static void main(String[] args) {
        promises20To23();
        promises24And25();
        promise26();
        promises27And28();
        promise29();
        promise30();
        finish();
    }
}
