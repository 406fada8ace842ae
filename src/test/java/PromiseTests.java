import java.util.NoSuchElementException;

/** One test for each promise of the document: ordinary calls, edges, and wrong calls in their order. */
public final class PromiseTests {
    private static final Class<?> INDEX = IndexOutOfBoundsException.class;
    private static final Class<?> ARGUMENT = IllegalArgumentException.class;
    private static final Class<?> STATE = IllegalStateException.class;
    private static final Class<?> ELEMENT = NoSuchElementException.class;
    private static final Class<?> ARITHMETIC = ArithmeticException.class;
    private static final int[] FAR_OFF = {-1, Integer.MIN_VALUE, Integer.MAX_VALUE, 32, 33, -32};

    private static String running = "";
    private static int wrongHere = 0;
    private static int passed = 0;
    private static int failed = 0;

    private interface Call {
        void run();
    }

    private static void same(String what, Object got, Object due) {
        if (!due.equals(got)) {
            wrong(what + " answered " + got + ", due is " + due);
        }
    }

    private static void fails(String what, Class<?> due, Call call) {
        try {
            call.run();
        } catch (RuntimeException e) {
            if (e.getClass() != due) {
                wrong(what + " threw " + e + ", due is " + due.getName());
            }
            return;
        }
        wrong(what + " threw nothing, due is " + due.getName());
    }

    private static void wrong(String text) {
        wrongHere++;
        System.out.println(running + ": " + text);
    }

    private static void test(String name, Call body) {
        running = name;
        wrongHere = 0;
        try {
            body.run();
        } catch (RuntimeException e) {
            wrong("stopped by " + e);
            e.printStackTrace(System.out);
        }
        if (wrongHere == 0) {
            passed++;
        } else {
            failed++;
        }
    }

    // ---- scenes

    /** Listeners 0 to n - 1, each added to hive 0 with the given doubts. */
    private static RumourHives listeners(int... doubts) {
        RumourHives x = new RumourHives();
        for (int doubt : doubts) {
            x.addListener(0, doubt);
        }
        return x;
    }

    /** Listeners linked in a row, one after the other. */
    private static RumourHives chain(int... doubts) {
        RumourHives x = listeners(doubts);
        for (int second = 1; second < doubts.length; second++) {
            x.link(second - 1, second);
        }
        return x;
    }

    private static void type(RumourHives x, String text) {
        for (int i = 0; i < text.length(); i++) {
            same("type of " + text.charAt(i), x.type(text.charAt(i)), i + 1);
        }
    }

    private static int script(RumourHives x, String text) {
        type(x, text);
        return x.runScript();
    }

    private static void badForm(String text, int position) {
        RumourHives x = new RumourHives();
        type(x, text);
        fails("script " + text, ARGUMENT, x::runScript);
        same("error position of " + text, x.errorPosition(), position);
    }

    private static String output(RumourHives x, int length) {
        StringBuilder text = new StringBuilder();
        for (int i = 0; i < length; i++) {
            text.append(x.outputAt(i));
        }
        fails("outputAt behind the text", INDEX, () -> x.outputAt(length));
        return text.toString();
    }

    private static String rumourText(RumourHives x, int rumour) {
        return output(x, x.renderRumour(rumour));
    }

    private static String hiveText(RumourHives x, int hive) {
        return output(x, x.renderHive(hive));
    }

    // ---- promises 1 to 10

    private static void p1() {
        RumourHives x = new RumourHives();
        same("listenerCount", x.listenerCount(), 0);
        same("rumourCount", x.rumourCount(), 0);
        same("linkCount", x.linkCount(), 0);
        same("round", x.round(), 0);
        same("heardTotal", x.heardTotal(), 0);
        same("successfulChecks", x.successfulChecks(), 0);
        same("isConsistent", x.isConsistent(), true);
        for (int hive = 0; hive < 4; hive++) {
            same("hiveSize", x.hiveSize(hive), 0);
        }
    }

    private static void p2() {
        RumourHives x = new RumourHives();
        for (int bad : FAR_OFF) {
            fails("addListener hive " + bad, ARGUMENT, () -> x.addListener(bad, 0));
            fails("addListener doubt " + bad, ARGUMENT, () -> x.addListener(0, bad));
        }
        fails("hive 4", ARGUMENT, () -> x.addListener(4, 0));
        fails("doubt 10", ARGUMENT, () -> x.addListener(0, 10));
        same("count after refusals", x.listenerCount(), 0);
        for (int i = 0; i < 12; i++) {
            same("addListener", x.addListener(i % 4, i % 10), i);
            if (i == 0) {
                x.startRumour(0, 9);
            }
        }
        for (int i = 0; i < 12; i++) {
            same("hive", x.hive(i), i % 4);
            same("doubt", x.doubt(i), i % 10);
            same("neighbourCount", x.neighbourCount(i), 0);
        }
        same("late listeners are unaware", rumourText(x, 0), "r0:9+...........");
        fails("a thirteenth", STATE, () -> x.addListener(0, 0));
        fails("a thirteenth in hive 4", ARGUMENT, () -> x.addListener(4, 0));
        fails("a thirteenth with doubt 10", ARGUMENT, () -> x.addListener(0, 10));
        same("listenerCount", x.listenerCount(), 12);
    }

    private static void p3() {
        RumourHives x = listeners(1, 2, 3);
        same("link", x.link(0, 2), 1);
        same("link", x.link(2, 1), 2);
        same("isLinked", x.isLinked(2, 0) && x.isLinked(0, 2) && x.isLinked(1, 2) && !x.isLinked(0, 1), true);
        for (int bad : FAR_OFF) {
            fails("link first " + bad, INDEX, () -> x.link(bad, 0));
            fails("link second " + bad, INDEX, () -> x.link(0, bad));
            fails("link both " + bad, INDEX, () -> x.link(bad, bad));
        }
        fails("link 3", INDEX, () -> x.link(3, 3));
        fails("link equal", ARGUMENT, () -> x.link(1, 1));
        fails("link again", STATE, () -> x.link(0, 2));
        fails("link again, turned", STATE, () -> x.link(2, 0));
        same("linkCount", x.linkCount(), 2);
    }

    private static void p4() {
        RumourHives x = chain(1, 2, 3, 4);
        for (int bad : FAR_OFF) {
            fails("unlink first " + bad, INDEX, () -> x.unlink(bad, 0));
            fails("unlink second " + bad, INDEX, () -> x.unlink(0, bad));
            fails("unlink both " + bad, INDEX, () -> x.unlink(bad, bad));
        }
        fails("unlink 4", INDEX, () -> x.unlink(0, 4));
        fails("unlink strangers", ELEMENT, () -> x.unlink(0, 2));
        fails("unlink equal", ELEMENT, () -> x.unlink(1, 1));
        same("unlink turned", x.unlink(2, 1), 2);
        same("isLinked", x.isLinked(1, 2) || x.isLinked(2, 1), false);
        same("others stay", x.isLinked(0, 1) && x.isLinked(2, 3), true);
        fails("unlink again", ELEMENT, () -> x.unlink(1, 2));
        same("unlink", x.unlink(0, 1), 1);
        same("linkCount", x.linkCount(), 1);
        same("link anew", x.link(1, 2), 2);
    }

    private static void p5() {
        RumourHives x = listeners(1, 2);
        same("moveListener", x.moveListener(1, 3), 0);
        same("moveListener", x.moveListener(1, 2), 3);
        same("hive", x.hive(1), 2);
        same("the other stays", x.hive(0), 0);
        for (int bad : FAR_OFF) {
            fails("moveListener " + bad, INDEX, () -> x.moveListener(bad, 1));
            fails("moveListener to " + bad, ARGUMENT, () -> x.moveListener(0, bad));
            fails("moveListener both " + bad, INDEX, () -> x.moveListener(bad, bad));
        }
        fails("moveListener 2", INDEX, () -> x.moveListener(2, 4));
        fails("moveListener to 4", ARGUMENT, () -> x.moveListener(0, 4));
        fails("moveListener to the same", STATE, () -> x.moveListener(1, 2));
        same("hive stays", x.hive(1), 2);
    }

    private static void p6() {
        RumourHives x = listeners(9, 9);
        for (int bad : FAR_OFF) {
            fails("startRumour by " + bad, INDEX, () -> x.startRumour(bad, 5));
            fails("startRumour strength " + bad, ARGUMENT, () -> x.startRumour(0, bad));
            fails("startRumour both " + bad, INDEX, () -> x.startRumour(bad, bad));
        }
        fails("startRumour by 2", INDEX, () -> x.startRumour(2, 5));
        fails("startRumour strength 10", ARGUMENT, () -> x.startRumour(0, 10));
        same("none yet", x.rumourCount(), 0);
        same("startRumour", x.startRumour(1, 0), 0);
        same("startRumour", x.startRumour(0, 9), 1);
        same("startRumour", x.startRumour(1, 3), 2);
        same("startRumour", x.startRumour(1, 3), 3);
        same("text", rumourText(x, 0), "r0:0.+");
        same("text", rumourText(x, 1), "r1:9+.");
        same("starts are not heard", x.heardTotal(), 0);
        fails("a fifth", STATE, () -> x.startRumour(0, 5));
        fails("a fifth with strength 10", ARGUMENT, () -> x.startRumour(0, 10));
        fails("a fifth by 2", INDEX, () -> x.startRumour(2, 5));
    }

    private static void p7() {
        RumourHives x = listeners(5, 6, 0);
        x.startRumour(0, 5);
        x.startRumour(1, 5);
        for (int bad : FAR_OFF) {
            fails("check rumour " + bad, INDEX, () -> x.check(bad, 0));
            fails("check listener " + bad, INDEX, () -> x.check(0, bad));
        }
        fails("check rumour 2", INDEX, () -> x.check(2, 0));
        fails("check listener 3", INDEX, () -> x.check(0, 3));
        fails("check by an unaware one", STATE, () -> x.check(0, 1));
        same("doubt equal to the strength", x.check(0, 0), false);
        same("still a spreader", x.isSpreader(0, 0), true);
        same("doubt above the strength", x.check(1, 1), true);
        same("now a sceptic", x.isSceptic(1, 1) && !x.isSpreader(1, 1), true);
        same("heardRound stays", x.heardRound(1, 1), 0);
        fails("check by a sceptic", STATE, () -> x.check(1, 1));
        RumourHives y = listeners(6);
        y.startRumour(0, 5);
        y.deny(0);
        same("check of a denied one", y.check(0, 0), true);
    }

    private static void p8() {
        RumourHives x = chain(0, 0, 0, 9);
        x.startRumour(0, 5);
        x.startRumour(1, 0);
        x.advance(1);
        same("deny", x.deny(0), 2);
        same("isAlive", x.isAlive(0), false);
        same("the other is alive", x.isAlive(1), true);
        for (int bad : FAR_OFF) {
            fails("deny " + bad, INDEX, () -> x.deny(bad));
        }
        fails("deny 2", INDEX, () -> x.deny(2));
        fails("deny again", STATE, () -> x.deny(0));
        x.advance(3);
        same("it does not spread nor weaken", rumourText(x, 0), "r0:5x++..");
    }

    private static void p9() {
        RumourHives x = listeners(1);
        x.startRumour(0, 7);
        fails("answer an alive one", STATE, () -> x.answer(0, 3));
        fails("answer an alive one, strength 10", ARGUMENT, () -> x.answer(0, 10));
        x.deny(0);
        for (int bad : FAR_OFF) {
            fails("answer " + bad, INDEX, () -> x.answer(bad, 3));
            fails("answer strength " + bad, ARGUMENT, () -> x.answer(0, bad));
            fails("answer both " + bad, INDEX, () -> x.answer(bad, bad));
        }
        fails("answer strength 10", ARGUMENT, () -> x.answer(0, 10));
        fails("answer 1", INDEX, () -> x.answer(1, 10));
        same("answer", x.answer(0, 9), 7);
        same("alive with strength 9", rumourText(x, 0), "r0:9+");
        x.deny(0);
        same("answer", x.answer(0, 0), 9);
        same("alive with strength 0", rumourText(x, 0), "r0:0+");
        fails("answer again", STATE, () -> x.answer(0, 0));
    }

    private static void p10() {
        RumourHives empty = new RumourHives();
        same("rounds pass over nobody", empty.advance(20), 0);
        same("round", empty.round(), 20);
        for (int bad : FAR_OFF) {
            fails("advance " + bad, ARGUMENT, () -> empty.advance(bad));
        }
        fails("advance 0", ARGUMENT, () -> empty.advance(0));
        fails("advance 21", ARGUMENT, () -> empty.advance(21));
        same("round stays", empty.round(), 20);
        p10Threshold();
        p10AtOnce();
        p10Strength();
        p10Several();
    }

    private static void p10Threshold() {
        RumourHives x = listeners(0, 4, 3, 5, 9);
        x.link(0, 1);
        x.link(0, 2);
        x.startRumour(0, 3);
        same("strength 3 and one neighbour pass doubt 3 only", x.advance(1), 1);
        same("text", rumourText(x, 0), "r0:3+-+..");
        x.link(3, 0);
        x.link(3, 2);
        x.link(3, 1);
        same("sceptics do not count: 3 + 2 is not above 5", x.advance(1), 0);
        same("text", rumourText(x, 0), "r0:2+-+-.");
    }

    private static void p10AtOnce() {
        RumourHives x = chain(0, 0, 0, 0);
        x.startRumour(0, 9);
        same("one link in a round", x.advance(1), 1);
        same("text", rumourText(x, 0), "r0:9++..");
        RumourHives y = listeners(0, 4, 4);
        y.link(0, 1);
        y.link(0, 2);
        y.link(1, 2);
        y.startRumour(0, 4);
        same("both hear at once", y.advance(1), 2);
        RumourHives z = listeners(0, 2, 3);
        z.link(0, 1);
        z.link(0, 2);
        z.link(1, 2);
        z.startRumour(0, 2);
        same("one who hears now does not count for the other", z.advance(1), 1);
        same("text", rumourText(z, 0), "r0:2++-");
    }

    private static void p10Strength() {
        RumourHives x = chain(0, 9);
        x.startRumour(0, 2);
        same("a round without a new spreader", x.advance(1), 0);
        same("weakens by 1", rumourText(x, 0), "r0:1+-");
        same("three rounds", x.advance(3), 0);
        same("but not below 0", x.strength(0), 0);
        RumourHives y = chain(0, 0, 9);
        y.startRumour(0, 2);
        same("rounds in a row", y.advance(2), 1);
        same("only the second one weakens", rumourText(y, 0), "r0:1++-");
        RumourHives z = listeners(0);
        z.startRumour(0, 9);
        same("nobody hears", z.advance(4), 0);
        same("weakens all the same", z.strength(0), 5);
    }

    private static void p10Several() {
        RumourHives x = chain(0, 0, 0);
        x.startRumour(0, 5);
        x.startRumour(2, 5);
        x.startRumour(1, 5);
        x.deny(1);
        same("all rumours together", x.advance(1), 3);
        same("one round for all", x.round(), 1);
        same("and again", x.advance(20), 1);
        same("round", x.round(), 21);
    }

    // ---- promises 11 to 20

    private static void p11() {
        RumourHives x = new RumourHives();
        for (int i = 0; i < 12; i++) {
            same("listenerCount", x.listenerCount(), i);
            x.addListener(0, 0);
        }
        same("listenerCount", x.listenerCount(), 12);
    }

    private static void p12() {
        RumourHives x = new RumourHives();
        fails("hive 0 of nobody", INDEX, () -> x.hive(0));
        x.addListener(3, 1);
        x.addListener(1, 2);
        same("hive", x.hive(0), 3);
        same("hive", x.hive(1), 1);
        for (int bad : FAR_OFF) {
            fails("hive " + bad, INDEX, () -> x.hive(bad));
        }
        fails("hive 2", INDEX, () -> x.hive(2));
    }

    private static void p13() {
        RumourHives x = new RumourHives();
        fails("doubt 0 of nobody", INDEX, () -> x.doubt(0));
        x.addListener(3, 0);
        x.addListener(1, 9);
        same("doubt", x.doubt(0), 0);
        same("doubt", x.doubt(1), 9);
        for (int bad : FAR_OFF) {
            fails("doubt " + bad, INDEX, () -> x.doubt(bad));
        }
        fails("doubt 2", INDEX, () -> x.doubt(2));
        x.save();
        x.undo();
        x.addListener(1, 5);
        same("doubt of another one", x.doubt(1), 5);
        x.restore();
        same("doubt of the restored one", x.doubt(1), 9);
    }

    private static void p14() {
        RumourHives x = chain(1, 2, 3);
        same("isLinked", x.isLinked(0, 1), true);
        same("isLinked turned", x.isLinked(1, 0), true);
        same("isLinked strangers", x.isLinked(0, 2), false);
        same("isLinked equal", x.isLinked(1, 1), false);
        for (int bad : FAR_OFF) {
            fails("isLinked first " + bad, INDEX, () -> x.isLinked(bad, 1));
            fails("isLinked second " + bad, INDEX, () -> x.isLinked(1, bad));
            fails("isLinked both " + bad, INDEX, () -> x.isLinked(bad, bad));
        }
        fails("isLinked 3", INDEX, () -> x.isLinked(3, 3));
    }

    private static void p15() {
        RumourHives x = chain(1, 2, 3, 4);
        x.addListener(0, 5);
        int[] due = {1, 2, 2, 1, 0};
        for (int i = 0; i < 5; i++) {
            same("neighbourCount " + i, x.neighbourCount(i), due[i]);
        }
        x.unlink(0, 1);
        same("neighbourCount after unlink", x.neighbourCount(0) * 10 + x.neighbourCount(1), 1);
        for (int bad : FAR_OFF) {
            fails("neighbourCount " + bad, INDEX, () -> x.neighbourCount(bad));
        }
        fails("neighbourCount 5", INDEX, () -> x.neighbourCount(5));
    }

    private static void p16() {
        RumourHives x = listeners(0, 0, 0, 0, 0, 0, 0, 0, 0, 0, 0, 0);
        int due = 0;
        for (int first = 0; first < 12; first++) {
            for (int second = 0; second < first; second++) {
                same("linkCount", x.linkCount(), due);
                x.link(first, second);
                due++;
            }
        }
        same("linkCount of all", x.linkCount(), 66);
        x.unlink(11, 0);
        same("linkCount after unlink", x.linkCount(), 65);
    }

    private static void p17() {
        RumourHives x = new RumourHives();
        x.addListener(0, 1);
        x.addListener(3, 1);
        x.addListener(3, 1);
        same("hiveSize 0", x.hiveSize(0), 1);
        same("hiveSize 1", x.hiveSize(1), 0);
        same("hiveSize 3", x.hiveSize(3), 2);
        x.moveListener(1, 1);
        same("hiveSize 1 after a move", x.hiveSize(1), 1);
        same("hiveSize 3 after a move", x.hiveSize(3), 1);
        for (int bad : FAR_OFF) {
            fails("hiveSize " + bad, INDEX, () -> x.hiveSize(bad));
        }
        fails("hiveSize 4", INDEX, () -> x.hiveSize(4));
    }

    private interface Count {
        int of(RumourHives x);
    }

    private static void components(Count count) {
        RumourHives x = new RumourHives();
        same("no listeners", count.of(x), 0);
        for (int i = 0; i < 12; i++) {
            x.addListener(0, 0);
            same("single listeners", count.of(x), i + 1);
        }
        int[] order = {11, 0, 10, 1, 9, 2, 8, 3, 7, 4, 6, 5};
        for (int i = 1; i < 12; i++) {
            x.link(order[i - 1], order[i]);
            same("a growing chain", count.of(x), 12 - i);
        }
        x.link(11, 5);
        same("a ring", count.of(x), 1);
        x.unlink(9, 2);
        same("a ring cut once", count.of(x), 1);
        x.unlink(7, 4);
        same("a ring cut twice", count.of(x), 2);
        x.link(9, 10);
        same("a link inside a component", count.of(x), 2);
    }

    private static void p18() {
        components(RumourHives::componentCount);
    }

    private static void p19() {
        components(RumourHives::componentCountByUnion);
    }

    private static void p20() {
        RumourHives x = listeners(0);
        for (int i = 0; i < 4; i++) {
            same("rumourCount", x.rumourCount(), i);
            x.startRumour(0, i);
        }
        x.deny(2);
        same("rumourCount", x.rumourCount(), 4);
    }

    // ---- promises 21 to 30

    private static RumourHives twoRumours() {
        RumourHives x = chain(0, 3, 9, 0);
        x.startRumour(0, 5);
        x.startRumour(1, 9);
        return x;
    }

    private interface OfRumour {
        Object get(int rumour);
    }

    private static void refusesRumours(String what, OfRumour query) {
        for (int bad : FAR_OFF) {
            fails(what + " of rumour " + bad, INDEX, () -> query.get(bad));
        }
        fails(what + " of rumour 2", INDEX, () -> query.get(2));
    }

    private interface OfBoth {
        Object get(int rumour, int other);
    }

    /** The other argument is an index below 4: a listener of twoRumours or a hive. */
    private static void refusesBoth(String what, OfBoth query) {
        for (int other = 0; other < 4; other++) {
            int fine = other;
            refusesRumours(what, rumour -> query.get(rumour, fine));
        }
        for (int bad : FAR_OFF) {
            fails(what + " with " + bad, INDEX, () -> query.get(0, bad));
        }
        fails(what + " with 4", INDEX, () -> query.get(0, 4));
        fails(what + " with both wrong", INDEX, () -> query.get(2, 4));
    }

    private static void p21() {
        RumourHives x = twoRumours();
        same("strength", x.strength(0), 5);
        same("strength", x.strength(1), 9);
        refusesRumours("strength", x::strength);
        fails("strength without rumours", INDEX, () -> listeners(1).strength(0));
    }

    private static void p22() {
        RumourHives x = twoRumours();
        same("isAlive", x.isAlive(0), true);
        x.deny(0);
        same("isAlive", x.isAlive(0), false);
        same("isAlive", x.isAlive(1), true);
        x.answer(0, 1);
        same("isAlive", x.isAlive(0), true);
        refusesRumours("isAlive", x::isAlive);
        fails("isAlive without rumours", INDEX, () -> listeners(1).isAlive(0));
    }

    private static void p23() {
        RumourHives x = twoRumours();
        same("starter", x.starter(0), 0);
        same("starter", x.starter(1), 1);
        x.deny(0);
        x.answer(0, 0);
        x.advance(3);
        same("starter stays", x.starter(0), 0);
        RumourHives y = listeners(9);
        y.startRumour(0, 0);
        y.check(0, 0);
        same("a starter who is a sceptic", y.starter(0), 0);
        refusesRumours("starter", x::starter);
        y.save();
        y.undo();
        y.undo();
        y.addListener(0, 0);
        y.startRumour(1, 0);
        same("another starter", y.starter(0), 1);
        y.restore();
        same("the restored starter", y.starter(0), 0);
        fails("starter without rumours", INDEX, () -> listeners(1).starter(0));
    }

    private static void p24() {
        RumourHives x = twoRumours();
        same("starter", x.isSpreader(0, 0), true);
        same("unaware", x.isSpreader(0, 1), false);
        same("of the other rumour", x.isSpreader(1, 0), false);
        x.advance(2);
        same("spreader", x.isSpreader(0, 1), true);
        same("sceptic", x.isSpreader(0, 2), false);
        refusesBoth("isSpreader", x::isSpreader);
    }

    private static void p25() {
        RumourHives x = twoRumours();
        same("starter", x.isSceptic(0, 0), false);
        same("unaware", x.isSceptic(0, 2), false);
        x.advance(2);
        same("spreader", x.isSceptic(0, 1), false);
        same("sceptic", x.isSceptic(0, 2), true);
        same("spreader of the other rumour", x.isSceptic(1, 2), false);
        refusesBoth("isSceptic", x::isSceptic);
    }

    private static void p26() {
        RumourHives x = chain(0, 3, 9, 0);
        x.advance(7);
        x.startRumour(0, 5);
        same("starter", x.heardRound(0, 0), 7);
        x.advance(2);
        x.startRumour(1, 9);
        same("first hearer", x.heardRound(0, 1), 7);
        same("a sceptic hears too", x.heardRound(0, 2), 8);
        fails("unaware", ELEMENT, () -> x.heardRound(0, 3));
        same("a later starter", x.heardRound(1, 1), 9);
        x.advance(5);
        same("the round stays", x.heardRound(0, 2), 8);
        refusesBoth("heardRound", x::heardRound);
        RumourHives y = chain(0, 0);
        y.startRumour(0, 5);
        y.link(0, y.addListener(0, 0));
        y.unlink(0, 1);
        y.advance(3);
        y.link(0, 1);
        y.advance(1);
        same("heard in round 3", y.heardRound(0, 1), 3);
        y.save();
        y.undo();
        y.undo();
        y.undo();
        y.undo();
        y.advance(1);
        same("heard in round 0", y.heardRound(0, 1), 0);
        y.restore();
        same("the restored round", y.heardRound(0, 1), 3);
    }

    private static void p27() {
        RumourHives x = twoRumours();
        same("spreaderCount", x.spreaderCount(0), 1);
        x.advance(2);
        same("spreaderCount", x.spreaderCount(0), 2);
        same("spreaderCount", x.spreaderCount(1), 4);
        refusesRumours("spreaderCount", x::spreaderCount);
        fails("spreaderCount without rumours", INDEX, () -> listeners(1).spreaderCount(0));
    }

    private static void p28() {
        RumourHives x = twoRumours();
        same("scepticCount", x.scepticCount(0), 0);
        x.advance(2);
        same("scepticCount", x.scepticCount(0), 1);
        same("scepticCount", x.scepticCount(1), 0);
        refusesRumours("scepticCount", x::scepticCount);
        fails("scepticCount without rumours", INDEX, () -> listeners(1).scepticCount(0));
    }

    private static void p29() {
        RumourHives x = twoRumours();
        x.moveListener(0, 3);
        same("the only spreader's hive", x.countedHive(0), 3);
        x.advance(1);
        same("of several hives the lowest", x.countedHive(0), 0);
        x.moveListener(1, 3);
        same("the hive with the most", x.countedHive(0), 3);
        x.deny(0);
        same("a denied one", x.countedHive(0), 3);
        RumourHives y = listeners(1);
        y.startRumour(0, 0);
        y.check(0, 0);
        fails("no spreaders", ELEMENT, () -> y.countedHive(0));
        refusesRumours("countedHive", x::countedHive);
        fails("countedHive without rumours", INDEX, () -> listeners(1).countedHive(0));
        RumourHives z = chain(0, 0, 0);
        z.moveListener(0, 2);
        z.moveListener(1, 1);
        z.moveListener(2, 2);
        z.startRumour(1, 9);
        z.advance(1);
        same("two in hive 2 against one in hive 1", z.countedHive(0), 2);
    }

    private static void p30() {
        RumourHives x = twoRumours();
        x.moveListener(3, 2);
        x.advance(3);
        same("spreadersInHive", x.spreadersInHive(0, 0), 2);
        same("spreadersInHive", x.spreadersInHive(0, 2), 0);
        same("spreadersInHive", x.spreadersInHive(1, 0), 3);
        same("spreadersInHive", x.spreadersInHive(1, 2), 1);
        same("spreadersInHive", x.spreadersInHive(1, 3), 0);
        refusesBoth("spreadersInHive", x::spreadersInHive);
        RumourHives y = listeners(9, 9, 9, 9, 9, 9);
        y.startRumour(0, 0);
        fails("hive 4, though listener 4 exists", INDEX, () -> y.spreadersInHive(0, 4));
    }

    // ---- promises 31 to 40

    private interface Distance {
        int of(RumourHives x, int rumour, int listener);
    }

    private static void distances(Distance distance) {
        RumourHives x = listeners(9, 9, 9, 9, 9, 9, 9, 9, 9, 9, 9, 9);
        x.startRumour(11, 0);
        x.startRumour(5, 9);
        int[] order = {11, 0, 10, 1, 9, 2, 8, 3, 7, 4, 6, 5};
        for (int i = 1; i < 12; i++) {
            x.link(order[i - 1], order[i]);
        }
        for (int i = 0; i < 12; i++) {
            same("distance along the chain", distance.of(x, 0, order[i]), i);
            same("distance from the other end", distance.of(x, 1, order[i]), 11 - i);
        }
        x.link(11, 7);
        same("a short cut", distance.of(x, 0, 5), 4);
        same("a short cut", distance.of(x, 0, 8), 3);
        x.deny(0);
        same("of a denied rumour", distance.of(x, 0, 5), 4);
        x.unlink(3, 7);
        x.unlink(11, 7);
        fails("no path", ELEMENT, () -> distance.of(x, 0, 5));
        same("but to the other rumour", distance.of(x, 1, 7), 3);
        x.check(0, 11);
        fails("no spreader", ELEMENT, () -> distance.of(x, 0, 11));
        RumourHives y = twoRumours();
        y.advance(2);
        same("the nearest of several", distance.of(y, 0, 3), 2);
        same("a sceptic has a distance", distance.of(y, 0, 2), 1);
        refusesBoth("distance", (rumour, listener) -> distance.of(y, rumour, listener));
    }

    private static void p31() {
        distances(RumourHives::distance);
    }

    private static void p32() {
        distances(RumourHives::distanceByRelaxation);
    }

    private static void p33() {
        RumourHives x = listeners(0, 3, 4, 5, 0, 0);
        x.link(0, 1);
        x.link(0, 2);
        x.link(0, 3);
        x.link(3, 4);
        x.startRumour(0, 3);
        x.startRumour(4, 9);
        same("nextSpreaders", x.nextSpreaders(0), 1);
        same("nextSpreaders", x.nextSpreaders(1), 1);
        x.link(1, 2);
        same("advance agrees", x.advance(1), 2);
        same("none is left", x.nextSpreaders(0), 0);
        x.link(1, 5);
        same("nextSpreaders", x.nextSpreaders(0), 1);
        x.deny(0);
        same("of a denied rumour", x.nextSpreaders(0), 0);
        same("nothing changed", rumourText(x, 0), "r0:3x++--..");
        refusesRumours("nextSpreaders", x::nextSpreaders);
        RumourHives y = chain(0, 0, 0);
        y.startRumour(1, 0);
        same("the first and the last listener", y.nextSpreaders(0), 2);
        fails("nextSpreaders without rumours", INDEX, () -> listeners(1).nextSpreaders(0));
    }

    private static void p34() {
        RumourHives x = chain(0, 3, 9, 0);
        x.startRumour(0, 5);
        x.startRumour(3, 0);
        same("roundsUntilHeard", x.roundsUntilHeard(0, 1), 1);
        same("also for a coming sceptic", x.roundsUntilHeard(0, 2), 2);
        fails("stopped by the sceptic", ELEMENT, () -> x.roundsUntilHeard(0, 3));
        fails("the starter", STATE, () -> x.roundsUntilHeard(0, 0));
        refusesBoth("roundsUntilHeard", x::roundsUntilHeard);
        same("nothing changed", x.round() * 100 + x.heardTotal(), 0);
        same("nothing changed", rumourText(x, 0), "r0:5+...");
        x.advance(2);
        fails("a sceptic", STATE, () -> x.roundsUntilHeard(0, 2));
        RumourHives y = chain(0, 0);
        y.startRumour(0, 5);
        y.deny(0);
        fails("a denied rumour", ELEMENT, () -> y.roundsUntilHeard(0, 1));
        fails("a denied rumour's starter", STATE, () -> y.roundsUntilHeard(0, 0));
        RumourHives z = chain(0, 0, 0, 0, 0, 0, 0, 0, 0, 0, 0, 0);
        z.startRumour(0, 0);
        same("the longest way", z.roundsUntilHeard(0, 11), 11);
        RumourHives w = chain(0, 2, 0);
        w.link(0, 2);
        w.startRumour(0, 1);
        same("two ways", w.roundsUntilHeard(0, 1), 1);
    }

    private static void p35() {
        RumourHives x = chain(0, 3, 3, 0);
        x.startRumour(0, 3);
        x.startRumour(2, 2);
        int[] due = {1, 2, 3, 4, 4};
        for (int rounds = 0; rounds < due.length; rounds++) {
            same("spreadersAfter " + rounds, x.spreadersAfter(0, rounds), due[rounds]);
        }
        same("spreadersAfter 40", x.spreadersAfter(0, 40), 4);
        for (int bad : FAR_OFF) {
            if (bad < 0 || bad > 40) {
                fails("spreadersAfter rounds " + bad, ARGUMENT, () -> x.spreadersAfter(0, bad));
            }
            fails("spreadersAfter both", INDEX, () -> x.spreadersAfter(bad, 41));
        }
        fails("spreadersAfter 41", ARGUMENT, () -> x.spreadersAfter(0, 41));
        fails("spreadersAfter 41 of rumour 2", INDEX, () -> x.spreadersAfter(2, 41));
        refusesRumours("spreadersAfter", rumour -> x.spreadersAfter(rumour, 0));
        same("nothing changed", x.round() * 100 + x.heardTotal(), 0);
        same("nothing changed", rumourText(x, 0), "r0:3+...");
        x.deny(0);
        same("a denied rumour", x.spreadersAfter(0, 40), 1);
        RumourHives y = chain(0, 3, 9);
        y.startRumour(2, 4);
        y.link(0, 2);
        same("it weakens on the way", y.spreadersAfter(0, 40), 3);
        RumourHives z = listeners(9, 4, 0, 9, 9);
        z.link(0, 1);
        z.startRumour(0, 4);
        same("now it would be believed", z.spreadersAfter(0, 40), 2);
        z.unlink(0, 1);
        z.advance(1);
        z.link(0, 1);
        same("after a weakening no more", z.spreadersAfter(0, 40), 1);
    }

    private static void p36() {
        RumourHives x = chain(0, 0, 0, 0);
        fails("rank 0 of no rumours", ELEMENT, () -> x.rumourBySpread(0));
        x.startRumour(0, 5);
        x.startRumour(3, 5);
        x.startRumour(0, 5);
        same("by index", x.rumourBySpread(0) * 100 + x.rumourBySpread(1) * 10 + x.rumourBySpread(2), 12);
        x.deny(0);
        same("alive before denied", x.rumourBySpread(0) * 100 + x.rumourBySpread(1) * 10 + x.rumourBySpread(2), 120);
        x.advance(1);
        x.deny(1);
        x.startRumour(2, 0);
        same("first", x.rumourBySpread(0), 2);
        same("more spreaders before alive ones", x.rumourBySpread(1), 1);
        same("third", x.rumourBySpread(2), 3);
        same("last", x.rumourBySpread(3), 0);
        for (int bad : FAR_OFF) {
            fails("rank " + bad, ELEMENT, () -> x.rumourBySpread(bad));
        }
        fails("rank 4", ELEMENT, () -> x.rumourBySpread(4));
    }

    private static void p37() {
        RumourHives x = listeners(5, 3, 5, 3, 9);
        fails("rank 0 of nobody", ELEMENT, () -> new RumourHives().listenerByGossip(0));
        int[] byDoubt = {1, 3, 0, 2, 4};
        for (int rank = 0; rank < 5; rank++) {
            same("by doubt, then index", x.listenerByGossip(rank), byDoubt[rank]);
        }
        x.startRumour(4, 1);
        x.startRumour(4, 2);
        x.startRumour(2, 2);
        x.startRumour(0, 2);
        x.deny(2);
        int[] byGossip = {4, 0, 2, 1, 3};
        for (int rank = 0; rank < 5; rank++) {
            same("by gossip first, denied ones too", x.listenerByGossip(rank), byGossip[rank]);
        }
        x.check(0, 4);
        x.check(1, 4);
        same("sceptics do not gossip", x.listenerByGossip(4), 4);
        for (int bad : FAR_OFF) {
            fails("rank " + bad, ELEMENT, () -> x.listenerByGossip(bad));
        }
        fails("rank 5", ELEMENT, () -> x.listenerByGossip(5));
    }

    private static void p38() {
        RumourHives x = listeners(1);
        same("round", x.round(), 0);
        x.advance(1);
        same("round", x.round(), 1);
        x.advance(20);
        same("round", x.round(), 21);
        x.undo();
        same("round", x.round(), 1);
    }

    private static void p39() {
        RumourHives x = chain(0, 3, 9, 0);
        x.startRumour(0, 5);
        x.startRumour(3, 9);
        same("starts do not count", x.heardTotal(), 0);
        x.advance(1);
        same("heardTotal", x.heardTotal(), 2);
        x.advance(1);
        same("sceptics hear too", x.heardTotal(), 4);
        x.advance(5);
        same("heardTotal", x.heardTotal(), 5);
        x.deny(0);
        x.advance(5);
        same("heardTotal", x.heardTotal(), 5);
    }

    private static void p40() {
        RumourHives x = listeners(5, 6);
        x.startRumour(0, 5);
        x.startRumour(1, 5);
        x.startRumour(1, 0);
        same("successfulChecks", x.successfulChecks(), 0);
        x.check(0, 0);
        same("an unsuccessful one", x.successfulChecks(), 0);
        x.check(1, 1);
        x.check(2, 1);
        same("successful ones", x.successfulChecks(), 2);
        fails("a refused one", STATE, () -> x.check(1, 1));
        same("successful ones", x.successfulChecks(), 2);
        x.undo();
        same("after undo", x.successfulChecks(), 1);
    }

    // ---- promises 41 to 53

    private static void p41() {
        fails("meanDoubt of nobody", ARITHMETIC, () -> new RumourHives().meanDoubt());
        same("meanDoubt", listeners(0).meanDoubt(), 0.0);
        same("meanDoubt", listeners(9, 8).meanDoubt(), 8.5);
        same("meanDoubt", listeners(1, 1, 0).meanDoubt(), 2.0 / 3.0);
    }

    private static void p42() {
        fails("gossipShare of nobody", ARITHMETIC, () -> new RumourHives().gossipShare());
        RumourHives x = listeners(9, 9, 9);
        same("gossipShare", x.gossipShare(), 0.0f);
        x.startRumour(0, 0);
        x.startRumour(0, 1);
        same("one who spreads two", x.gossipShare(), 1.0f / 3.0f);
        x.startRumour(2, 9);
        x.deny(2);
        same("a denied rumour counts", x.gossipShare(), 2.0f / 3.0f);
        x.check(0, 0);
        same("he still spreads the other", x.gossipShare(), 2.0f / 3.0f);
        x.check(1, 0);
        same("a sceptic does not count", x.gossipShare(), 1.0f / 3.0f);
        RumourHives y = listeners(1, 1);
        y.startRumour(0, 0);
        same("the first rumour alone", y.gossipShare(), 0.5f);
    }

    private static void p43() {
        same("a new object", new RumourHives().isConsistent(), true);
        RumourHives x = twoRumours();
        x.addListener(3, 4);
        for (int step = 0; step < 5; step++) {
            same("isConsistent", x.isConsistent(), true);
            x.advance(1);
        }
        x.deny(0);
        x.answer(0, 0);
        same("a check", x.check(0, 1), true);
        x.moveListener(0, 2);
        same("isConsistent", x.isConsistent(), true);
    }

    private static void p44() {
        RumourHives x = listeners(0, 9, 0, 1);
        x.link(0, 1);
        x.startRumour(0, 6);
        x.startRumour(3, 9);
        x.advance(1);
        same("rendered", rumourText(x, 0), "r0:5+-..");
        same("length", x.renderRumour(1), 8);
        x.deny(1);
        same("length of a denied one", x.renderRumour(1), 9);
        same("rendered", rumourText(x, 1), "r1:8x...+");
        refusesRumours("renderRumour", x::renderRumour);
        same("a refused call keeps the text", output(x, 9), "r1:8x...+");
        fails("renderRumour without rumours", INDEX, () -> listeners(1).renderRumour(0));
    }

    private static void p45() {
        RumourHives x = new RumourHives();
        same("empty hive", x.renderHive(0), 0);
        for (int i = 0; i < 12; i++) {
            x.addListener(i % 3, 0);
        }
        same("hive 0", hiveText(x, 0), "0,3,6,9");
        same("hive 2", hiveText(x, 2), "2,5,8,11");
        same("hive 3", hiveText(x, 3), "");
        for (int i = 0; i < 12; i++) {
            if (i % 3 != 1) {
                x.moveListener(i, 1);
            }
        }
        same("hive 1", hiveText(x, 1), "0,1,2,3,4,5,6,7,8,9,10,11");
        for (int bad : FAR_OFF) {
            fails("renderHive " + bad, INDEX, () -> x.renderHive(bad));
        }
        fails("renderHive 4", INDEX, () -> x.renderHive(4));
        same("a refused call keeps the text", output(x, 25).length(), 25);
    }

    private static void p46() {
        RumourHives x = listeners(1, 2);
        fails("outputAt of no text", INDEX, () -> x.outputAt(0));
        x.renderHive(0);
        same("outputAt", x.outputAt(0), '0');
        same("outputAt", x.outputAt(1), ',');
        same("outputAt", x.outputAt(2), '1');
        for (int bad : FAR_OFF) {
            fails("outputAt " + bad, INDEX, () -> x.outputAt(bad));
        }
        fails("outputAt 3", INDEX, () -> x.outputAt(3));
        x.renderHive(1);
        fails("outputAt of an empty text", INDEX, () -> x.outputAt(0));
    }

    private static void p47() {
        RumourHives x = new RumourHives();
        char[] bad = {31, 127, 0, 10, 255, 65535, 32768};
        for (char character : bad) {
            fails("type " + (int) character, ARGUMENT, () -> x.type(character));
        }
        for (int i = 1; i <= 60; i++) {
            same("type", x.type(i % 2 == 0 ? ' ' : '~'), i);
        }
        fails("a sixty-first", STATE, () -> x.type(' '));
        fails("a wrong sixty-first", ARGUMENT, () -> x.type((char) 127));
        fails("the script", ARGUMENT, x::runScript);
        same("type after the run", x.type('a'), 1);
    }

    private static void p48() {
        RumourHives x = new RumourHives();
        same("ear", script(x, "ear 3 9;ear 0 0;ear 1 2"), 3);
        same("listeners", x.listenerCount() * 100 + x.hive(0) * 10 + x.doubt(0), 339);
        same("link, cut", script(x, "link 0 1;link 01 02;cut 1 0"), 3);
        same("links", !x.isLinked(0, 1) && x.isLinked(1, 2), true);
        same("start, move, deny", script(x, "start 01 5;move 0 2;deny 0"), 3);
        same("rumour", rumourText(x, 0), "r0:5x.+.");
        same("hive", x.hive(0), 2);
        same("answer, round", script(x, "answer 0 7;round;round 2;round 03"), 4);
        same("round", x.round(), 6);
        same("rumour", rumourText(x, 0), "r0:2.++");
        same("check", script(x, "check 0 02;deny 0;answer 0 1;check 0 02"), 4);
        same("rumour", rumourText(x, 0), "r0:1.+-");
        p48Failures();
        p48Form();
        p48Changes();
    }

    private static void p48Failures() {
        RumourHives x = listeners(1, 2);
        x.startRumour(0, 5);
        type(x, "link 0 1;round;ear 0 9;move 0 4");
        fails("a failed command", STATE, x::runScript);
        same("none took effect", x.linkCount() + x.round() + x.listenerCount(), 2);
        same("none took effect", rumourText(x, 0), "r0:5+.");
        same("failedCommand", x.failedCommand(), 3);
        String[] bad = {"ear 4 0", "link 0 0", "link 0 2", "cut 0 1", "start 2 0", "check 0 1", "check 1 0",
            "deny 1", "answer 0 1", "move 0 0", "move 99 0", "round 0", "round 21", "round 99"};
        for (String text : bad) {
            type(x, "round 20;" + text);
            fails(text, STATE, x::runScript);
            same("failedCommand of " + text, x.failedCommand(), 1);
            same("round", x.round(), 0);
        }
        RumourHives y = new RumourHives();
        same("ten commands", script(y, "round;round;round;round;round;round;round;round;round;round"), 10);
        same("round", y.round(), 10);
    }

    private static void p48Form() {
        RumourHives x = new RumourHives();
        type(x, "ear 0 1;ear 9 9;");
        fails("form before failure", ARGUMENT, x::runScript);
        same("no effect", x.listenerCount(), 0);
        fails("no failed command", ELEMENT, x::failedCommand);
        fails("the buffer is empty", ARGUMENT, x::runScript);
        same("the error position of an empty script", x.errorPosition(), 0);
        type(x, "deny 0");
        fails("failure", STATE, x::runScript);
        fails("the buffer is empty", ARGUMENT, x::runScript);
        same("script", script(x, "round"), 1);
        fails("the buffer is empty", ARGUMENT, x::runScript);
    }

    private static void p48Changes() {
        RumourHives x = new RumourHives();
        script(x, "ear 0 1;ear 0 2;link 0 1");
        script(x, "round;start 0 9;round");
        same("a script is one change", x.undo(), 1);
        same("all of it is undone", x.round() + x.rumourCount(), 0);
        type(x, "round;deny 3");
        fails("failure", STATE, x::runScript);
        type(x, "round;deny");
        fails("form", ARGUMENT, x::runScript);
        same("failed scripts are no changes", x.undo(), 0);
        same("all of it is undone", x.listenerCount(), 0);
    }

    private static void p49() {
        RumourHives x = new RumourHives();
        fails("no script yet", ELEMENT, x::errorPosition);
        same("a good script", script(x, "round"), 1);
        fails("no bad script yet", ELEMENT, x::errorPosition);
        type(x, "deny 0");
        fails("a failed script", STATE, x::runScript);
        fails("no bad script yet", ELEMENT, x::errorPosition);
        type(x, "ear 12");
        fails("a bad script", ARGUMENT, x::runScript);
        same("errorPosition", x.errorPosition(), 5);
        same("a good script", script(x, "round"), 1);
        same("the latest bad one stays", x.errorPosition(), 5);
        x.undo();
        same("undo does not cover it", x.errorPosition(), 5);
        p49Positions();
        badForm("round;round;round;round;round;round;round;round;round;round;", 60);
        badForm("round;round;round;round;round;round;round;round;round;round ", 60);
    }

    private static void p49Positions() {
        String[] commands = {"ear 1 2", "link 1 2", "link 12 34", "cut 1 2", "cut 12 34", "start 1 2",
            "start 12 3", "check 1 2", "check 1 23", "deny 1", "answer 1 2", "move 1 2", "move 12 3", "round",
            "round 1", "round 12"};
        for (String command : commands) {
            for (int end = 0; end < command.length(); end++) {
                if (!isWhole(commands, command.substring(0, end))) {
                    badForm(command.substring(0, end), end);
                    badForm("round;" + command.substring(0, end), 6 + end);
                }
                badForm(command.substring(0, end) + "?", end);
                badForm("round 7;" + command.substring(0, end) + "Z1", 8 + end);
            }
            badForm(command + "?", command.length());
            badForm(command + ";", command.length() + 1);
            badForm(command + ";;", command.length() + 1);
            badForm(command + "; round", command.length() + 1);
        }
        badForm("round ;", 6);
        badForm("round  1", 6);
        badForm("round 123", 8);
        badForm("link 123 1", 7);
        badForm("link  1 1", 5);
        badForm("ear 10 1", 5);
        badForm("ear 1 10", 7);
        badForm("check 10 1", 7);
        badForm("start 10 10", 10);
        badForm("chut", 2);
        badForm("cux", 2);
        badForm("cuh", 2);
        badForm("Round", 0);
        badForm(" round", 0);
        badForm("round -1", 6);
        badForm("round/", 5);
        badForm("round :", 6);
        badForm("round 1/", 7);
        badForm("round 1:", 7);
    }

    private static boolean isWhole(String[] commands, String text) {
        for (String command : commands) {
            if (command.equals(text)) {
                return true;
            }
        }
        return text.matches("(link|cut) [0-9]+ [0-9]+|check [0-9] [0-9]+|round [0-9]");
    }

    private static void p50() {
        RumourHives x = new RumourHives();
        fails("no script yet", ELEMENT, x::failedCommand);
        same("a good script", script(x, "round"), 1);
        type(x, "bad");
        fails("a bad script", ARGUMENT, x::runScript);
        fails("no failed script yet", ELEMENT, x::failedCommand);
        type(x, "deny 0");
        fails("a failed script", STATE, x::runScript);
        same("failedCommand", x.failedCommand(), 0);
        type(x, "round;ear 0 0;deny 0;deny 1");
        fails("a failed script", STATE, x::runScript);
        same("failedCommand", x.failedCommand(), 2);
        same("a good script", script(x, "round"), 1);
        type(x, "bad");
        fails("a bad script", ARGUMENT, x::runScript);
        x.undo();
        same("the latest failed one stays", x.failedCommand(), 2);
        type(x, "round;round;round;round;round;round;round;round;round;deny 0");
        fails("a failed script", STATE, x::runScript);
        same("failedCommand", x.failedCommand(), 9);
    }

    private static void p51() {
        RumourHives x = new RumourHives();
        fails("nothing to undo", ELEMENT, x::undo);
        x.addListener(1, 2);
        same("undo", x.undo(), 0);
        same("listenerCount", x.listenerCount(), 0);
        fails("nothing to undo", ELEMENT, x::undo);
        for (int i = 0; i < 12; i++) {
            x.addListener(0, 0);
        }
        for (int left = 7; left >= 0; left--) {
            same("undo", x.undo(), left);
            same("listenerCount", x.listenerCount(), left + 4);
        }
        fails("only 8 can be undone", ELEMENT, x::undo);
        same("listenerCount", x.listenerCount(), 4);
        p51Kinds();
        p51NoChanges();
    }

    private static void p51Kinds() {
        RumourHives x = chain(0, 9);
        x.startRumour(0, 5);
        x.moveListener(1, 2);
        x.unlink(0, 1);
        x.link(0, 1);
        x.advance(1);
        x.check(0, 0);
        x.deny(0);
        x.answer(0, 9);
        same("before", rumourText(x, 0), "r0:9+-");
        same("undo answer", x.undo(), 7);
        same("after", rumourText(x, 0), "r0:4x+-");
        same("undo deny", x.undo(), 6);
        same("after", rumourText(x, 0), "r0:4+-");
        same("undo a check that changed nothing", x.undo(), 5);
        same("after", rumourText(x, 0), "r0:4+-");
        same("undo advance", x.undo(), 4);
        same("after", rumourText(x, 0), "r0:5+.");
        same("after", x.round() + x.heardTotal(), 0);
        same("undo link", x.undo(), 3);
        same("after", x.linkCount(), 0);
        same("undo unlink", x.undo(), 2);
        same("after", x.linkCount(), 1);
        same("undo move", x.undo(), 1);
        same("after", x.hive(1), 0);
        same("undo start", x.undo(), 0);
        same("after", x.rumourCount(), 0);
        fails("nothing to undo", ELEMENT, x::undo);
        same("a new rumour is fresh", x.startRumour(1, 3), 0);
        same("after", rumourText(x, 0), "r0:3.+");
    }

    private static void p51NoChanges() {
        RumourHives x = listeners(1);
        fails("a refused call", STATE, () -> x.moveListener(0, 0));
        x.save();
        x.renderHive(0);
        type(x, "round 1");
        same("only the change counts", x.undo(), 0);
        same("the output text stays", output(x, 1), "0");
        same("the buffer stays", x.type('9'), 8);
        same("script", x.runScript(), 1);
        same("round", x.round(), 19);
        x.addListener(0, 0);
        same("a change after an undo", x.undo(), 1);
        same("the snapshot stays", x.restore(), 1);
    }

    private static void p52() {
        RumourHives x = new RumourHives();
        same("save", x.save(), 0);
        x.addListener(2, 3);
        x.addListener(2, 3);
        same("restore the first", x.restore(), 0);
        x.addListener(2, 3);
        same("save", x.save(), 1);
        x.addListener(2, 3);
        same("save is no change", x.undo(), 1);
        same("a later save replaces", x.restore(), 1);
        same("hive", x.hive(0), 2);
    }

    private static void p53() {
        RumourHives x = chain(0, 9);
        fails("no snapshot", STATE, x::restore);
        fails("still none", STATE, x::restore);
        x.startRumour(0, 5);
        x.advance(1);
        x.save();
        type(x, "deny 0;bad");
        fails("form", ARGUMENT, x::runScript);
        x.addListener(3, 3);
        x.link(1, 2);
        x.unlink(0, 1);
        x.moveListener(0, 1);
        x.deny(0);
        x.answer(0, 0);
        x.advance(5);
        x.startRumour(2, 2);
        x.check(1, 2);
        type(x, "rou");
        x.renderHive(3);
        same("restore", x.restore(), 2);
        fails("nothing to undo", ELEMENT, x::undo);
        same("the output text stays", output(x, 1), "2");
        same("rumour", rumourText(x, 0), "r0:4+-");
        same("rest", x.linkCount() * 1000 + x.round() * 100 + x.hive(0) * 10 + x.rumourCount(), 1101);
        same("totals", x.heardTotal() * 10 + x.successfulChecks(), 10);
        same("the buffer stays", x.type('n'), 4);
        same("the error position stays", x.errorPosition(), 7);
        x.advance(3);
        same("undo after restore", x.undo(), 0);
        x.deny(0);
        same("the snapshot is kept", x.restore(), 2);
        same("rumour", rumourText(x, 0), "r0:4+-");
        fails("nothing to undo", ELEMENT, x::undo);
    }

    private static void firstPromises() {
        test("promise 1", PromiseTests::p1);
        test("promise 2", PromiseTests::p2);
        test("promise 3", PromiseTests::p3);
        test("promise 4", PromiseTests::p4);
        test("promise 5", PromiseTests::p5);
        test("promise 6", PromiseTests::p6);
        test("promise 7", PromiseTests::p7);
        test("promise 8", PromiseTests::p8);
        test("promise 9", PromiseTests::p9);
        test("promise 10", PromiseTests::p10);
        test("promise 11", PromiseTests::p11);
        test("promise 12", PromiseTests::p12);
        test("promise 13", PromiseTests::p13);
        test("promise 14", PromiseTests::p14);
        test("promise 15", PromiseTests::p15);
        test("promise 16", PromiseTests::p16);
        test("promise 17", PromiseTests::p17);
        test("promise 18", PromiseTests::p18);
        test("promise 19", PromiseTests::p19);
        test("promise 20", PromiseTests::p20);
        test("promise 21", PromiseTests::p21);
        test("promise 22", PromiseTests::p22);
        test("promise 23", PromiseTests::p23);
        test("promise 24", PromiseTests::p24);
        test("promise 25", PromiseTests::p25);
        test("promise 26", PromiseTests::p26);
        test("promise 27", PromiseTests::p27);
    }

    private static void lastPromises() {
        test("promise 28", PromiseTests::p28);
        test("promise 29", PromiseTests::p29);
        test("promise 30", PromiseTests::p30);
        test("promise 31", PromiseTests::p31);
        test("promise 32", PromiseTests::p32);
        test("promise 33", PromiseTests::p33);
        test("promise 34", PromiseTests::p34);
        test("promise 35", PromiseTests::p35);
        test("promise 36", PromiseTests::p36);
        test("promise 37", PromiseTests::p37);
        test("promise 38", PromiseTests::p38);
        test("promise 39", PromiseTests::p39);
        test("promise 40", PromiseTests::p40);
        test("promise 41", PromiseTests::p41);
        test("promise 42", PromiseTests::p42);
        test("promise 43", PromiseTests::p43);
        test("promise 44", PromiseTests::p44);
        test("promise 45", PromiseTests::p45);
        test("promise 46", PromiseTests::p46);
        test("promise 47", PromiseTests::p47);
        test("promise 48", PromiseTests::p48);
        test("promise 49", PromiseTests::p49);
        test("promise 50", PromiseTests::p50);
        test("promise 51", PromiseTests::p51);
        test("promise 52", PromiseTests::p52);
        test("promise 53", PromiseTests::p53);
    }

    public static void main(String[] args) {
        firstPromises();
        lastPromises();
        System.out.println(passed + " passed, " + failed + " failed");
        if (failed != 0) {
            System.exit(1);
        }
    }
}
