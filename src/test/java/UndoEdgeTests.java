/** The edges of promises 51 to 53, with "Changes" in "Terms": undo, the snapshot, and what they cover. */
public final class UndoEdgeTests extends Bench {

    /**
     * Six listeners and three rumours, a snapshot of just this, and nothing to undo. Each change can be made:
     * listener 1 doubts rumour 0 enough for a check, and in the next round 4 and 5 hear it.
     */
    private static final Steps FRESH = x -> {
        x.addListener(0, 0);
        x.addListener(1, 3);
        x.addListener(1, 9);
        x.addListener(3, 2);
        x.addListener(0, 4);
        x.addListener(2, 0);
        x.link(0, 1);
        x.link(2, 1);
        x.link(2, 3);
        x.startRumour(0, 5);
        x.advance(4);
        x.startRumour(3, 1);
        x.check(1, 3);
        x.startRumour(1, 9);
        x.deny(2);
        x.link(0, 4);
        x.link(0, 5);
        x.save();
        x.restore();
    };

    private static Steps rounds(int count) {
        return times(count, x -> x.advance(1));
    }

    private static Steps undone(int count) {
        return times(count, RumourHives::undo);
    }

    // ---- undo

    private static void depth() {
        test("51: nothing to undo in a new object", () -> refused(ELEMENT, NEW, RumourHives::undo));
        test("51: one change leaves none", () -> answers(0, rounds(1), RumourHives::undo));
        test("51: nothing to undo after it was undone", () -> refused(ELEMENT, rounds(1).then(undone(1)), RumourHives::undo));
        test("51: seven changes", () -> allUndone(7, 7));
        test("51: eight changes", () -> allUndone(8, 8));
        test("51: of nine changes the latest eight", () -> allUndone(9, 8));
        test("51: of any number of changes the latest eight", () -> {
            for (int changes = 10; changes <= 40; changes++) {
                allUndone(changes, 8);
            }
        });
        test("51: of as many changes as one object takes", () -> allUndone(490, 8));
        test("51: changes after an undo", () -> {
            for (int changes = 1; changes <= 20; changes++) {
                int first = Math.min(8, changes);
                for (int back = 1; back <= first; back++) {
                    for (int more = 1; more <= 9; more++) {
                        int left = Math.min(8, first - back + more);
                        answers(left - 1, rounds(changes).then(undone(back)).then(rounds(more)), RumourHives::undo);
                    }
                }
            }
        });
        test("51: the latest one that has not been undone", () -> {
            Steps twice = ears(5).then(x -> {
                x.moveListener(0, 1);
                x.moveListener(0, 2);
                x.undo();
                x.moveListener(0, 3);
            });
            answers(3, twice, x -> x.hive(0));
            answers(1, twice.then(undone(1)), x -> x.hive(0));
            answers(0, twice.then(undone(2)), x -> x.hive(0));
            answers(0, twice.then(undone(3)), RumourHives::listenerCount);
            refused(ELEMENT, twice.then(undone(3)), RumourHives::undo);
        });
        test("51: each change on its own, the latest one first", () -> {
            RumourHives x = after(TALE);
            same("undo deny", x.undo() + " " + x.isAlive(2), "7 true");
            same("undo startRumour", x.undo() + " " + x.rumourCount(), "6 2");
            same("undo check", x.undo() + " " + x.isSpreader(1, 3) + " " + x.successfulChecks(), "5 true 0");
            same("undo startRumour", x.undo() + " " + x.rumourCount(), "4 1");
            same("undo advance", x.undo() + " " + x.round() + " " + x.heardTotal() + " " + x.strength(0), "3 0 0 5");
            same("undo startRumour", x.undo() + " " + x.rumourCount(), "2 0");
            same("undo link", x.undo() + " " + x.linkCount() + " " + x.isLinked(2, 3), "1 2 false");
            same("undo link", x.undo() + " " + x.linkCount() + " " + x.isLinked(1, 2), "0 1 false");
            same("undo", outcome(x, RumourHives::undo), ELEMENT);
            same("link", x.linkCount() + " " + x.isLinked(0, 1), "1 true");
        });
    }

    /** After so many rounds of one call each, the latest ones can be undone, and no more. */
    private static void allUndone(int changes, int undoable) {
        RumourHives x = after(rounds(changes));
        for (int left = undoable - 1; left >= 0; left--) {
            same("undo", outcome(x, RumourHives::undo), left);
            same("round", x.round(), changes - undoable + left);
        }
        same("one undo more", outcome(x, RumourHives::undo), ELEMENT);
        same("round", x.round(), changes - undoable);
    }

    private static void change(String name, Steps call) {
        test("Changes: " + name + " is one change and can be undone", () -> {
            refused(ELEMENT, FRESH, RumourHives::undo);
            answers(0, FRESH.then(call), RumourHives::undo);
            same("the state", state(after(FRESH.then(call).then(undone(1)))), state(after(FRESH)));
            refused(ELEMENT, FRESH.then(call).then(undone(1)), RumourHives::undo);
            answers(1, FRESH.then(call).then(x -> x.advance(1)), RumourHives::undo);
        });
        test("Changes: the snapshot takes back " + name, () -> {
            same("the state", state(after(FRESH.then(call).then(RumourHives::restore))), state(after(FRESH)));
            refused(ELEMENT, FRESH.then(call).then(RumourHives::restore), RumourHives::undo);
        });
        test("Changes: the snapshot keeps " + name, () ->
                same("the state", state(after(FRESH.then(call).then(RumourHives::save).then(UndoEdgeTests::muddle)
                        .then(RumourHives::restore))), state(after(FRESH.then(call)))));
    }

    /** Changes all that can be changed. */
    private static void muddle(RumourHives x) {
        int count = x.listenerCount();
        x.addListener(2, 7);
        for (int first = 0; first < count; first++) {
            for (int second = 0; second < first; second++) {
                if (x.isLinked(first, second)) {
                    x.unlink(first, second);
                } else {
                    x.link(first, second);
                }
            }
            x.moveListener(first, (x.hive(first) + 1) % 4);
        }
        for (int rumour = 0; rumour < 3; rumour++) {
            if (x.isAlive(rumour)) {
                x.deny(rumour);
            }
            x.answer(rumour, 2);
            for (int listener = 0; listener < count; listener++) {
                if (x.isSpreader(rumour, listener)) {
                    x.check(rumour, listener);
                }
            }
        }
        if (x.rumourCount() < 4) {
            x.startRumour(4, 6);
        }
        x.advance(5);
    }

    private static void changes() {
        change("addListener", x -> x.addListener(2, 6));
        change("link", x -> x.link(1, 4));
        change("unlink", x -> x.unlink(1, 2));
        change("moveListener", x -> x.moveListener(2, 2));
        change("startRumour", x -> x.startRumour(4, 6));
        change("a check that makes a sceptic", x -> same("check", x.check(0, 1), true));
        change("a check after which the state is the same", x -> same("check", x.check(0, 0), false));
        change("deny", x -> x.deny(0));
        change("answer", x -> x.answer(2, 3));
        change("an answer with the same strength", x -> x.answer(2, 9));
        change("one round in which two hear a rumour", x -> same("advance", x.advance(1), 1));
        change("twenty rounds", x -> x.advance(20));
        change("a script of one command", script("ear 2 6"));
        change("a script of ten commands",
                script("round;round;round;round;round;round;round;round;round;deny 0"));
        change("a script after which the state is the same", script("link 1 4;cut 1 4"));
        test("Changes: a round where nobody and nothing is, is a change", () ->
                answers(0, NEW.then(x -> x.advance(1)), RumourHives::undo));
    }

    private static void noChange(String name, Steps call) {
        test("Changes: " + name + " is no change", () -> {
            answers(ELEMENT, FRESH.then(call), RumourHives::undo);
            answers(0, FRESH.then(x -> x.advance(1)).then(call), RumourHives::undo);
        });
    }

    private static void noChanges() {
        noChange("type", x -> x.type('a'));
        noChange("renderRumour", x -> x.renderRumour(0));
        noChange("renderHive", x -> x.renderHive(0));
        noChange("save", RumourHives::save);
        noChange("nextSpreaders", x -> x.nextSpreaders(0));
        noChange("roundsUntilHeard", x -> outcome(x, y -> y.roundsUntilHeard(0, 4)));
        noChange("spreadersAfter", x -> x.spreadersAfter(0, 40));
        noChange("a refused addListener", x -> outcome(x, y -> y.addListener(4, 0)));
        noChange("a refused link", x -> outcome(x, y -> y.link(0, 1)));
        noChange("a refused unlink", x -> outcome(x, y -> y.unlink(0, 2)));
        noChange("a refused moveListener", x -> outcome(x, y -> y.moveListener(0, 0)));
        noChange("a refused startRumour", x -> outcome(x, y -> y.startRumour(0, 10)));
        noChange("a refused check", x -> outcome(x, y -> y.check(1, 3)));
        noChange("a refused deny", x -> outcome(x, y -> y.deny(2)));
        noChange("a refused answer", x -> outcome(x, y -> y.answer(0, 5)));
        noChange("a refused advance", x -> outcome(x, y -> y.advance(0)));
        noChange("a script of the wrong form", refusedScript("round;"));
        noChange("a failed script", refusedScript("round;deny 2"));
    }

    // ---- the same indices with something else behind them

    private static void oneWay(RumourHives x) {
        x.addListener(1, 3);
        x.link(0, 1);
        x.startRumour(0, 5);
        x.advance(1);
        x.check(0, 0);
    }

    private static void otherWay(RumourHives x) {
        x.addListener(2, 8);
        x.advance(20);
        x.startRumour(1, 7);
        x.link(1, 0);
        x.advance(20);
    }

    private static void usedAgain() {
        Steps one = ears(9).then(UndoEdgeTests::oneWay);
        Steps other = ears(9).then(UndoEdgeTests::otherWay);
        test("Changes: the snapshot has what was behind the same indices", () -> {
            Steps there = one.then(RumourHives::save).then(undone(5)).then(UndoEdgeTests::otherWay);
            same("the state before", state(after(there)), state(after(other)));
            same("the state", state(after(there.then(RumourHives::restore))), state(after(one)));
            Steps back = other.then(RumourHives::save).then(undone(5)).then(UndoEdgeTests::oneWay);
            same("the state before", state(after(back)), state(after(one)));
            same("the state", state(after(back.then(RumourHives::restore))), state(after(other)));
        });
        test("Changes: undo over a script that failed with the same indices", () -> {
            Steps scene = ears(9).then(x -> {
                x.addListener(0, 1);
                x.advance(3);
            });
            Steps failed = scene.then(refusedScript("ear 1 7;start 2 5;link 2 1;round;deny 1"));
            Steps used = x -> {
                x.addListener(3, 2);
                x.startRumour(0, 1);
                x.link(0, 2);
                x.advance(2);
            };
            same("the state", state(after(failed.then(used))), state(after(scene.then(used))));
            same("the states before", pastStates(failed.then(used)), pastStates(scene.then(used)));
        });
        test("Changes: undone and done otherwise, again and again", () -> {
            Steps both = other.then(undone(5)).then(UndoEdgeTests::oneWay).then(undone(5)).then(UndoEdgeTests::otherWay);
            same("the state", state(after(both)), state(after(other)));
            same("the states before", pastStates(both), pastStates(other));
        });
    }

    // ---- what undo and the snapshot do not cover

    private static void uncovered(String name, Steps back) {
        Steps before = FRESH.then(x -> x.advance(1));
        test("Changes: " + name + " leaves the script buffer", () -> {
            answers(6, before.then(typed("round")).then(back), x -> x.type(' '));
            answers(1, before.then(typed("round")).then(back), RumourHives::runScript);
            answers(1, FRESH.then(typed("round")).then(x -> x.advance(1)).then(back), RumourHives::runScript);
        });
        test("Changes: " + name + " leaves the buffer empty that a script emptied", () ->
                answers(1, FRESH.then(script("round")).then(back), x -> x.type('r')));
        test("Changes: " + name + " leaves the error position", () ->
                answers(5, before.then(refusedScript("ear 12")).then(back), RumourHives::errorPosition));
        test("Changes: " + name + " leaves the index of the failed command", () ->
                answers(1, before.then(refusedScript("round;deny 2")).then(back), RumourHives::failedCommand));
        test("Changes: " + name + " leaves the output text", () -> {
            same("the text", output(after(before.then(x -> x.renderHive(1)).then(back))), "1,2");
            same("the text", output(after(FRESH.then(x -> x.renderHive(1)).then(x -> x.renderRumour(2))
                    .then(x -> x.advance(1)).then(back))), "r2:9x.+....");
        });
        test("Changes: " + name + " leaves the snapshot", () ->
                same("the snapshot", snapshot(before.then(x -> x.advance(3)).then(RumourHives::save)
                        .then(x -> x.advance(1)).then(back)), snapshot(before.then(x -> x.advance(3)).then(RumourHives::save))));
    }

    // ---- the snapshot

    private static void promise52() {
        test("52: the least number of listeners, 0", () -> answers(0, NEW, RumourHives::save));
        test("52: the greatest number of listeners, 12", () -> answers(12, FULL, RumourHives::save));
        test("52: it replaces an earlier one with more listeners", () ->
                answers(4, TWELVE.then(RumourHives::save).then(undone(8)).then(RumourHives::save)
                        .then(x -> x.addListener(0, 0)), RumourHives::restore));
        test("52: it replaces an earlier one with fewer listeners", () ->
                answers(12, NEW.then(RumourHives::save).then(TWELVE).then(RumourHives::save), RumourHives::restore));
        test("52: an empty one can be restored", () -> {
            Steps emptied = NEW.then(RumourHives::save).then(TWELVE).then(RumourHives::restore);
            answers(0, emptied, RumourHives::listenerCount);
            same("the state", state(after(emptied)), state(after(NEW)));
        });
        test("52: later changes do not reach it", () ->
                same("the state", state(after(FRESH.then(UndoEdgeTests::muddle).then(RumourHives::restore))), state(after(FRESH))));
        test("52: what can be undone stays", () ->
                same("the states", pastStates(TALE.then(RumourHives::save)), pastStates(TALE)));
        test("52: the state stays", () -> same("the state", state(after(RICH.then(RumourHives::save))), state(after(RICH))));
    }

    private static void promise53() {
        test("53: no snapshot in a new object", () -> refused(STATE, NEW, RumourHives::restore));
        test("53: no snapshot, though there are changes and undos", () ->
                refused(STATE, TWELVE.then(undone(3)), RumourHives::restore));
        test("53: no snapshot after a refused restore", () ->
                refused(STATE, TWELVE.then(x -> outcome(x, RumourHives::restore)), RumourHives::restore));
        test("53: the least number of listeners, 0", () -> answers(0, NEW.then(RumourHives::save), RumourHives::restore));
        test("53: the greatest number of listeners, 12", () -> answers(12, FULL, RumourHives::restore));
        test("53: nothing to undo afterwards", () -> {
            refused(ELEMENT, TALE.then(RumourHives::restore), RumourHives::undo);
            refused(ELEMENT, FULL.then(RumourHives::restore), RumourHives::undo);
        });
        test("53: nothing to undo afterwards, though nothing had changed", () ->
                refused(ELEMENT, rounds(3).then(RumourHives::save).then(RumourHives::restore), RumourHives::undo));
        test("53: later changes can be undone, up to eight", () -> {
            for (int changes = 1; changes <= 12; changes++) {
                Steps later = rounds(5).then(RumourHives::save).then(rounds(4)).then(RumourHives::restore).then(rounds(changes));
                int left = Math.min(8, changes);
                answers(left - 1, later, RumourHives::undo);
                answers(5 + changes - left, later.then(undone(left)), RumourHives::round);
                refused(ELEMENT, later.then(undone(left)), RumourHives::undo);
            }
        });
        test("53: the snapshot is kept", () -> {
            Steps twice = TWELVE.then(RumourHives::save).then(undone(2)).then(RumourHives::restore)
                    .then(x -> x.moveListener(0, 3));
            answers(12, twice, RumourHives::restore);
            answers(0, twice.then(RumourHives::restore), x -> x.hive(0));
        });
        test("53: it is kept through many restores", () ->
                same("the state", state(after(FRESH.then(times(20, x -> {
                    x.advance(20);
                    x.restore();
                })))), state(after(FRESH))));
        test("53: an older state has fewer listeners", () -> {
            Steps fewer = TALE.then(RumourHives::restore);
            answers(3, fewer, RumourHives::listenerCount);
            answers(0, fewer, RumourHives::rumourCount);
            answers(INDEX, fewer, x -> x.hive(3));
            answers(INDEX, fewer, x -> x.strength(0));
        });
    }

    public static void main(String[] args) {
        depth();
        changes();
        noChanges();
        usedAgain();
        uncovered("undo", RumourHives::undo);
        uncovered("restore", RumourHives::restore);
        promise52();
        promise53();
        finish();
    }
}
