/** The edges of promises 6 to 10: starting, checking, denying and answering rumours, and the rounds. */
public final class RumourEdgeTests extends Bench {

    private static void promise6() {
        listenerArgument("6: the listener", (x, listener) -> x.startRumour(listener, 5));
        outside("6: the strength", ARGUMENT, RICH, 0, 9, (x, strength) -> x.startRumour(0, strength));
        test("6: no listeners at all", () -> refused(INDEX, NEW, x -> x.startRumour(0, 5)));
        test("6: neither listener nor strength: the exception listed first", () -> {
            refused(INDEX, RICH, x -> x.startRumour(5, 10));
            refused(INDEX, RICH, x -> x.startRumour(-1, -1));
        });
        test("6: the fourth is started", () -> answers(3, RICH, x -> x.startRumour(4, 5)));
        test("6: a fifth is refused", () -> refused(STATE, FULL, x -> x.startRumour(0, 5)));
        test("6: a fifth by no listener: the exception listed first", () ->
                refused(INDEX, FULL, x -> x.startRumour(12, 5)));
        test("6: a fifth without a strength: the exception listed first", () -> {
            refused(ARGUMENT, FULL, x -> x.startRumour(0, -1));
            refused(ARGUMENT, FULL, x -> x.startRumour(0, 10));
        });
        test("6: a fifth with everything wrong: the exception listed first", () ->
                refused(INDEX, FULL, x -> x.startRumour(12, 10)));
        test("6: a denied rumour makes no room", () -> {
            Steps denied = ears(1).then(x -> {
                for (int rumour = 0; rumour < 4; rumour++) {
                    x.startRumour(0, 5);
                    x.deny(rumour);
                }
            });
            refused(STATE, denied, x -> x.startRumour(0, 5));
        });
        test("6: after an undo there is room for a fourth again", () ->
                answers(3, ears(1).then(times(4, x -> x.startRumour(0, 5))).then(RumourHives::undo),
                        x -> x.startRumour(0, 5)));
        test("6: indices 0 to n - 1 in the order of starting", () -> {
            RumourHives x = after(ears(1));
            for (int rumour = 0; rumour < 4; rumour++) {
                same("startRumour", x.startRumour(0, rumour + 3), rumour);
            }
            for (int rumour = 0; rumour < 4; rumour++) {
                same("strength", x.strength(rumour), rumour + 3);
            }
        });
        test("6: the least strength, the greatest doubt: the starter is a spreader, alone", () ->
                startedBy(0, 0, "r0:0+..........."));
        test("6: the greatest strength, the last listener", () -> startedBy(11, 9, "r0:9...........+"));
    }

    private static void startedBy(int listener, int strength, String due) {
        RumourHives x = after(ears(9, 9, 9, 9, 9, 9, 9, 9, 9, 9, 9, 9).then(linkAll(12)));
        same("startRumour", x.startRumour(listener, strength), 0);
        same("isAlive", x.isAlive(0), true);
        same("starter", x.starter(0), listener);
        same("its length", x.renderRumour(0), due.length());
        same("the rumour", output(x), due);
    }

    private static void laterListeners() {
        test("Rumours: a later listener is unaware of all rumours", () -> {
            RumourHives x = after(ears(0).then(times(4, y -> y.startRumour(0, 9))).then(y -> y.addListener(0, 0)));
            for (int rumour = 0; rumour < 4; rumour++) {
                int one = rumour;
                same("isSpreader", x.isSpreader(one, 1), false);
                same("isSceptic", x.isSceptic(one, 1), false);
                same("heardRound", outcome(x, y -> y.heardRound(one, 1)), ELEMENT);
            }
        });
        test("Rumours: also one with the index of a listener who was undone", () -> {
            Steps undone = ears(0).then(x -> {
                x.startRumour(0, 9);
                x.addListener(0, 0);
                x.link(0, 1);
                x.advance(1);
                x.undo();
                x.undo();
                x.undo();
                x.addListener(0, 0);
            });
            answers(false, undone, x -> x.isSpreader(0, 1));
            answers(1, undone, x -> x.spreaderCount(0));
            answers(0, undone, x -> x.neighbourCount(1));
            answers(ELEMENT, undone, x -> x.heardRound(0, 1));
        });
        test("Rumours: all are unaware of a new one with the index of a rumour that was undone", () -> {
            Steps undone = chain(0, 0, 9).then(x -> {
                x.startRumour(0, 9);
                x.advance(2);
                x.check(0, 0);
                x.deny(0);
                x.undo();
                x.undo();
                x.undo();
                x.undo();
                x.startRumour(2, 3);
            });
            answers("[+2]", undone, x -> standing(x, 0, 3));
            answers(true, undone, x -> x.isAlive(0));
        });
    }

    private static String standing(RumourHives x, int rumour, int count) {
        StringBuilder text = new StringBuilder("[");
        for (int listener = 0; listener < count; listener++) {
            text.append(x.isSpreader(rumour, listener) ? "+" + listener : "");
            text.append(x.isSceptic(rumour, listener) ? "-" + listener : "");
        }
        return text.append("]").toString();
    }

    private static Steps starterOf(int doubt, int strength) {
        return ears(doubt).then(x -> x.startRumour(0, strength));
    }

    private static void promise7() {
        rumourArgument("7: the rumour", (x, rumour) -> x.check(rumour, 0));
        listenerArgument("7: the listener", (x, listener) -> x.check(0, listener));
        test("7: no listeners at all", () -> refused(INDEX, NEW, x -> x.check(0, 0)));
        test("7: neither rumour nor listener", () -> refused(INDEX, RICH, x -> x.check(3, 5)));
        test("7: an unaware listener", () -> refused(STATE, RICH, x -> x.check(0, 4)));
        test("7: a sceptic who heard it", () -> refused(STATE, RICH, x -> x.check(0, 2)));
        test("7: a sceptic by a check", () -> refused(STATE, RICH, x -> x.check(1, 3)));
        test("7: a spreader of another rumour alone", () -> refused(STATE, RICH, x -> x.check(2, 0)));
        test("7: the doubt equals the strength, for all strengths", () -> {
            for (int strength = 0; strength <= 9; strength++) {
                checked(strength, strength, false);
            }
        });
        test("7: the doubt is just above the strength, for all strengths", () -> {
            for (int strength = 0; strength <= 8; strength++) {
                checked(strength + 1, strength, true);
            }
        });
        test("7: the doubt is just below the strength, for all strengths", () -> {
            for (int strength = 1; strength <= 9; strength++) {
                checked(strength - 1, strength, false);
            }
        });
        test("7: the greatest doubt and the least strength", () -> checked(9, 0, true));
        test("7: the least doubt and the greatest strength", () -> checked(0, 9, false));
        test("7: a denied rumour can be checked, too", () -> {
            Steps denied = starterOf(5, 4).then(x -> x.deny(0));
            answers(true, denied, x -> x.check(0, 0));
            answers("[-0]", denied.then(x -> x.check(0, 0)), x -> standing(x, 0, 1));
            answers(false, denied.then(x -> x.check(0, 0)), x -> x.isAlive(0));
        });
        test("7: a denied rumour that is as strong as the doubt", () ->
                answers(false, starterOf(4, 4).then(x -> x.deny(0)), x -> x.check(0, 0)));
        test("7: the last rumour and the last listener alone", () -> {
            Steps four = ears(9, 9, 9, 9, 9, 9, 9, 9, 9, 9, 9, 9).then(times(4, x -> x.startRumour(11, 8)))
                    .then(x -> x.check(3, 11));
            answers("[-11]", four, x -> standing(x, 3, 12));
            answers("[+11]", four, x -> standing(x, 2, 12));
        });
        test("7: the strength of now counts, not that of the start", () -> {
            answers(false, starterOf(5, 5), x -> x.check(0, 0));
            answers(true, starterOf(5, 5).then(x -> x.advance(1)), x -> x.check(0, 0));
        });
        test("7: nothing changes otherwise, but that it is a change", () -> {
            Steps before = starterOf(5, 5);
            same("the state", state(after(before.then(x -> x.check(0, 0)))), state(after(before)));
            answers(2, before.then(x -> x.check(0, 0)), RumourHives::undo);
        });
    }

    private static void checked(int doubt, int strength, boolean due) {
        Steps before = starterOf(doubt, strength);
        String what = "doubt " + doubt + " against strength " + strength;
        RumourHives x = after(before);
        same(what, x.check(0, 0), due);
        same(what, standing(x, 0, 1), due ? "[-0]" : "[+0]");
        same(what, x.successfulChecks(), due ? 1 : 0);
        same(what, x.strength(0), strength);
    }

    private static void promise8() {
        rumourArgument("8: the rumour", RumourHives::deny);
        test("8: no listeners at all", () -> refused(INDEX, NEW, x -> x.deny(0)));
        test("8: the rumour is denied", () -> refused(STATE, RICH, x -> x.deny(2)));
        test("8: the least number of spreaders, 0", () -> answers(0, RICH, x -> x.deny(1)));
        test("8: the greatest number of spreaders, 12", () -> answers(12, FULL, x -> x.deny(1)));
        test("8: sceptics and unaware listeners do not count", () -> answers(2, RICH, x -> x.deny(0)));
        test("8: spreaders and sceptics stay what they are", () ->
                answers("[+0+1-2]", RICH.then(x -> x.deny(0)), x -> standing(x, 0, 5)));
        test("8: the strength stays", () -> answers(4, RICH.then(x -> x.deny(0)), x -> x.strength(0)));
        test("8: the first and the last rumour alone", () -> {
            Steps four = ears(0).then(times(4, x -> x.startRumour(0, 5)));
            for (int rumour = 0; rumour < 4; rumour++) {
                int one = rumour;
                answers("" + (one == 0 ? "" : "0") + (one == 1 ? "" : "1") + (one == 2 ? "" : "2")
                        + (one == 3 ? "" : "3"), four.then(x -> x.deny(one)), RumourEdgeTests::alive);
            }
        });
        test("8: answered, it can be denied again", () ->
                answers(1, starterOf(0, 5).then(x -> x.deny(0)).then(x -> x.answer(0, 1)), x -> x.deny(0)));
    }

    private static String alive(RumourHives x) {
        StringBuilder text = new StringBuilder();
        for (int rumour = 0; rumour < x.rumourCount(); rumour++) {
            text.append(x.isAlive(rumour) ? "" + rumour : "");
        }
        return text.toString();
    }

    private static void promise9() {
        rumourArgument("9: the rumour", (x, rumour) -> x.answer(rumour, 5));
        outside("9: the strength", ARGUMENT, RICH, 0, 9, (x, strength) -> x.answer(2, strength));
        test("9: no listeners at all", () -> refused(INDEX, NEW, x -> x.answer(0, 5)));
        test("9: neither rumour nor strength: the exception listed first", () -> {
            refused(INDEX, RICH, x -> x.answer(3, 10));
            refused(INDEX, RICH, x -> x.answer(-1, -1));
        });
        test("9: the rumour is alive", () -> refused(STATE, RICH, x -> x.answer(0, 5)));
        test("9: the rumour is alive and has no spreaders", () -> refused(STATE, RICH, x -> x.answer(1, 5)));
        test("9: the rumour is alive, and there is no such strength: the exception listed first", () -> {
            refused(ARGUMENT, RICH, x -> x.answer(0, 10));
            refused(ARGUMENT, RICH, x -> x.answer(0, -1));
        });
        test("9: the rumour is alive again", () ->
                refused(STATE, RICH.then(x -> x.answer(2, 5)), x -> x.answer(2, 5)));
        test("9: the least new strength, the greatest previous one", () -> answered(9, 0));
        test("9: the greatest new strength, the least previous one", () -> answered(0, 9));
        test("9: the same strength", () -> answered(4, 4));
        test("9: it spreads again", () -> {
            Steps again = chain(0, 0).then(x -> {
                x.startRumour(0, 5);
                x.deny(0);
                x.advance(3);
                x.answer(0, 0);
            });
            answers(1, again, x -> x.advance(1));
            answers(3, again.then(x -> x.advance(1)), x -> x.heardRound(0, 1));
        });
        test("9: spreaders and sceptics stay", () ->
                answers("[+0+1-2]", RICH.then(x -> x.deny(0)).then(x -> x.answer(0, 9)), x -> standing(x, 0, 5)));
    }

    private static void answered(int previous, int next) {
        RumourHives x = after(starterOf(0, previous).then(y -> y.deny(0)));
        same("answer", x.answer(0, next), previous);
        same("strength", x.strength(0), next);
        same("isAlive", x.isAlive(0), true);
    }

    private static void promise10() {
        outside("10: the rounds", ARGUMENT, RICH, 1, 20, RumourHives::advance);
        outside("10: the rounds where nobody is", ARGUMENT, NEW, 1, 20, RumourHives::advance);
        test("10: the least, 1", () -> answers(1, NEW.then(x -> x.advance(1)), RumourHives::round));
        test("10: the greatest, 20", () -> answers(20, NEW.then(x -> x.advance(20)), RumourHives::round));
        test("10: nobody hears where nobody is", () -> answers(0, NEW, x -> x.advance(20)));
        test("10: nobody hears where no rumour is", () -> answers(0, TWELVE.then(linkAll(12)), x -> x.advance(20)));
        test("10: nobody hears who is not linked", () ->
                answers(0, ears(0, 0).then(x -> x.startRumour(0, 9)), x -> x.advance(20)));
        test("10: the greatest answer, 44", () -> answers(44,
                ears(0, 0, 0, 0, 0, 0, 0, 0, 0, 0, 0, 0).then(linkAll(12)).then(times(4, x -> x.startRumour(3, 0))),
                x -> x.advance(1)));
        test("10: all rounds count, not only the last one", () ->
                answers(11, chain(0, 0, 0, 0, 0, 0, 0, 0, 0, 0, 0, 0).then(x -> x.startRumour(0, 0)),
                        x -> x.advance(20)));
        test("10: sceptics do not count", () -> answers(0, chain(0, 9).then(x -> x.startRumour(0, 0)), x -> x.advance(20)));
        test("10: twenty rounds are twenty times one", () ->
                same("the state", state(after(RICH.then(x -> x.advance(20)))),
                        state(after(RICH.then(times(20, x -> x.advance(1)))))));
    }

    private static void spreading() {
        test("Spreading: a chain is heard link by link, upwards", () -> answers("[+0+1]",
                chain(0, 0, 0).then(x -> x.startRumour(0, 9)).then(x -> x.advance(1)), x -> standing(x, 0, 3)));
        test("Spreading: a chain is heard link by link, downwards", () -> answers("[+1+2]",
                chain(0, 0, 0).then(x -> x.startRumour(2, 9)).then(x -> x.advance(1)), x -> standing(x, 0, 3)));
        test("Spreading: strength and neighbours equal to the doubt make a sceptic", () -> {
            for (int tellers = 1; tellers <= 9; tellers++) {
                heardBy(tellers, 9 - tellers, 9, false);
            }
            heardBy(1, 0, 1, false);
        });
        test("Spreading: strength and neighbours just above the doubt make a spreader", () -> {
            for (int tellers = 1; tellers <= 10; tellers++) {
                heardBy(tellers, 10 - tellers, 9, true);
            }
            heardBy(1, 0, 0, true);
        });
        test("Spreading: the most neighbours and the greatest strength", () -> heardBy(11, 9, 9, true));
        test("Spreading: the most neighbours and the least strength", () -> heardBy(11, 0, 9, true));
        test("Spreading: one neighbour and the least strength against the greatest doubt", () -> heardBy(1, 0, 9, false));
        test("Spreading: neighbours who are sceptics do not count", () -> {
            Steps sceptic = ears(0, 9, 5).then(x -> {
                x.startRumour(0, 4);
                x.link(0, 1);
                x.advance(1);
                x.deny(0);
                x.answer(0, 4);
                x.link(2, 0);
                x.link(2, 1);
                x.advance(1);
            });
            answers("[+0-1-2]", sceptic, x -> standing(x, 0, 3));
        });
        test("Spreading: neighbours who are unaware do not count", () -> answers("[+0-1]",
                chain(0, 5, 9).then(x -> x.startRumour(0, 4)).then(x -> x.advance(1)), x -> standing(x, 0, 3)));
        test("Spreading: neighbours who hear it in this round do not count", () -> answers("[+0+1-2]",
                ears(0, 4, 5).then(linkAll(3)).then(x -> x.startRumour(0, 4)).then(x -> x.advance(1)),
                x -> standing(x, 0, 3)));
        test("Spreading: nor do they where the doubtful one has the lower index", () -> answers("[-0+1+2]",
                ears(5, 4, 0).then(linkAll(3)).then(x -> x.startRumour(2, 4)).then(x -> x.advance(1)),
                x -> standing(x, 0, 3)));
        test("Spreading: neighbours who spread another rumour do not count", () -> answers("[+0-1]",
                chain(0, 5, 0).then(x -> x.startRumour(0, 4)).then(x -> x.startRumour(2, 4)).then(x -> x.advance(1)),
                x -> standing(x, 0, 3)));
        test("Spreading: a sceptic hears nothing again, however strong", () -> answers("[+0-1]",
                chain(0, 9).then(x -> {
                    x.startRumour(0, 0);
                    x.advance(1);
                    x.deny(0);
                    x.answer(0, 9);
                    x.advance(20);
                }), x -> standing(x, 0, 2)));
        test("Spreading: a sceptic tells nobody", () -> answers("[+0-1]",
                chain(0, 9, 0).then(x -> x.startRumour(0, 5)).then(x -> x.advance(20)), x -> standing(x, 0, 3)));
        test("Spreading: a denied rumour does not spread", () -> answers("[+0]",
                chain(0, 0).then(x -> x.startRumour(0, 9)).then(x -> x.deny(0)).then(x -> x.advance(20)),
                x -> standing(x, 0, 2)));
        test("Spreading: a denied rumour does not weaken", () -> answers(9,
                starterOf(0, 9).then(x -> x.deny(0)).then(x -> x.advance(20)), x -> x.strength(0)));
    }

    /** A listener of this doubt hears a rumour of this strength from so many spreaders at once. */
    private static void heardBy(int tellers, int strength, int doubt, boolean believes) {
        RumourHives x = new RumourHives();
        x.addListener(0, 9);
        x.startRumour(0, strength);
        for (int teller = 1; teller < tellers; teller++) {
            x.addListener(0, 0);
            x.link(0, teller);
        }
        if (tellers > 1) {
            same("who tell it", x.advance(1), tellers - 1);
        }
        x.addListener(0, doubt);
        for (int teller = 0; teller < tellers; teller++) {
            x.link(teller, tellers);
        }
        String what = "strength " + strength + " with " + tellers + " against " + doubt;
        same(what + ", advance", x.advance(1), believes ? 1 : 0);
        same(what + ", isSpreader", x.isSpreader(0, tellers), believes);
        same(what + ", isSceptic", x.isSceptic(0, tellers), !believes);
        same(what + ", strength", x.strength(0), believes ? strength : Math.max(0, strength - 1));
    }

    private static void weakening() {
        test("Spreading: from 1 to 0", () -> answers(0, starterOf(0, 1).then(x -> x.advance(1)), x -> x.strength(0)));
        test("Spreading: not below 0", () -> answers(0, starterOf(0, 0).then(x -> x.advance(1)), x -> x.strength(0)));
        test("Spreading: from 9 not below 0", () -> {
            answers(1, starterOf(0, 9).then(x -> x.advance(8)), x -> x.strength(0));
            answers(0, starterOf(0, 9).then(x -> x.advance(9)), x -> x.strength(0));
            answers(0, starterOf(0, 9).then(x -> x.advance(10)), x -> x.strength(0));
            answers(0, starterOf(0, 9).then(x -> x.advance(20)), x -> x.strength(0));
        });
        test("Spreading: one new spreader keeps the strength", () ->
                answers(9, chain(0, 0).then(x -> x.startRumour(0, 9)).then(x -> x.advance(1)), x -> x.strength(0)));
        test("Spreading: one new spreader among new sceptics keeps the strength", () -> {
            Steps mixed = ears(0, 9, 0, 9).then(linkAll(4)).then(x -> x.startRumour(0, 5)).then(x -> x.advance(1));
            answers("[+0-1+2-3]", mixed, x -> standing(x, 0, 4));
            answers(5, mixed, x -> x.strength(0));
        });
        test("Spreading: new sceptics alone weaken it", () ->
                answers(4, chain(0, 9).then(x -> x.startRumour(0, 5)).then(x -> x.advance(1)), x -> x.strength(0)));
        test("Spreading: it weakens where nobody is left", () -> answers(4,
                chain(0, 0).then(x -> x.startRumour(0, 5)).then(x -> x.advance(2)), x -> x.strength(0)));
        test("Spreading: it weakens without a spreader", () ->
                answers(4, starterOf(9, 5).then(x -> x.check(0, 0)).then(x -> x.advance(1)), x -> x.strength(0)));
        test("Spreading: a new spreader of another rumour does not count", () -> {
            Steps two = chain(0, 0, 9).then(x -> {
                x.startRumour(2, 5);
                x.unlink(1, 2);
                x.startRumour(0, 5);
                x.startRumour(2, 3);
                x.advance(1);
            });
            answers(4, two, x -> x.strength(0));
            answers(5, two, x -> x.strength(1));
            answers(2, two, x -> x.strength(2));
        });
        test("Spreading: the strength counts that it had before the round", () -> {
            Steps apart = ears(0, 5).then(x -> x.startRumour(0, 5));
            answers("[+0+1]", apart.then(x -> x.link(0, 1)).then(x -> x.advance(1)), x -> standing(x, 0, 2));
            answers("[+0-1]", apart.then(x -> x.advance(1)).then(x -> x.link(0, 1)).then(x -> x.advance(1)),
                    x -> standing(x, 0, 2));
        });
        test("Spreading: once for all rumours the counter increases", () -> {
            answers(1, ears(0).then(times(4, x -> x.startRumour(0, 1))).then(x -> x.advance(1)), RumourHives::round);
            answers(1, ears(0).then(x -> x.advance(1)), RumourHives::round);
        });
    }

    public static void main(String[] args) {
        promise6();
        laterListeners();
        promise7();
        promise8();
        promise9();
        promise10();
        spreading();
        weakening();
        finish();
    }
}
