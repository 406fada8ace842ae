import java.util.ArrayList;
import java.util.List;
import java.util.NoSuchElementException;

/**
 * What the tests of edges share. A scene is the calls that lead somewhere; it is played anew on a fresh
 * object for each look, since some looks (undo, restore, runScript) change what they look at.
 */
public class Bench {
    static final Class<?> INDEX = IndexOutOfBoundsException.class;
    static final Class<?> ARGUMENT = IllegalArgumentException.class;
    static final Class<?> STATE = IllegalStateException.class;
    static final Class<?> ELEMENT = NoSuchElementException.class;
    static final Class<?> ARITHMETIC = ArithmeticException.class;

    /** An int that turns round where its bits, its low byte or its low half are used alone. */
    private static final int[] TURNS = {32, 64, 256, 65536};

    private static String running = "";
    private static int wrongHere = 0;
    private static int passed = 0;
    private static int failed = 0;

    interface Steps {
        void on(RumourHives x);

        default Steps then(Steps next) {
            return x -> {
                on(x);
                next.on(x);
            };
        }
    }

    interface Ask {
        Object of(RumourHives x);
    }

    interface AskAt {
        Object of(RumourHives x, int argument);
    }

    // ---- scenes

    static final Steps NEW = x -> { };

    /** Listeners 0 to n - 1 of hive 0 with the given doubts. */
    static Steps ears(int... doubts) {
        return x -> {
            for (int doubt : doubts) {
                x.addListener(0, doubt);
            }
        };
    }

    /** Listeners of hive 0, each linked with the one before it. */
    static Steps chain(int... doubts) {
        return ears(doubts).then(x -> {
            for (int second = 1; second < doubts.length; second++) {
                x.link(second - 1, second);
            }
        });
    }

    static Steps linkAll(int count) {
        return x -> {
            for (int first = 0; first < count; first++) {
                for (int second = first + 1; second < count; second++) {
                    x.link(first, second);
                }
            }
        };
    }

    static Steps typed(String text) {
        return x -> {
            for (int i = 0; i < text.length(); i++) {
                x.type(text.charAt(i));
            }
        };
    }

    /** A script that has no effect but its marks: it is refused. */
    static Steps refusedScript(String text) {
        return typed(text).then(x -> same("the script " + text, outcome(x, RumourHives::runScript) instanceof Class, true));
    }

    static Steps script(String text) {
        return typed(text).then(RumourHives::runScript);
    }

    static Steps times(int count, Steps steps) {
        return x -> {
            for (int i = 0; i < count; i++) {
                steps.on(x);
            }
        };
    }

    /** Twelve listeners without links, in hives 0, 1, 2, 3, 0, .. with the doubts 0 to 9, 0, 1. */
    static final Steps TWELVE = x -> {
        for (int i = 0; i < 12; i++) {
            x.addListener(i % 4, i % 10);
        }
    };

    /**
     * Five listeners and three rumours: rumour 0 has spreaders, a sceptic and unaware listeners, rumour 1 no
     * spreader, rumour 2 is denied. There is a snapshot, an output text, and more changes than can be undone.
     */
    static final Steps TALE = x -> {
        x.addListener(0, 0);
        x.addListener(1, 3);
        x.addListener(1, 9);
        x.save();
        x.addListener(3, 2);
        x.addListener(0, 4);
        x.link(0, 1);
        x.link(2, 1);
        x.link(2, 3);
        x.startRumour(0, 5);
        x.advance(2);
        x.startRumour(3, 1);
        x.check(1, 3);
        x.startRumour(1, 9);
        x.deny(2);
        x.renderHive(1);
    };

    /** The same with the marks of both kinds of refused scripts, and half a script in the buffer. */
    static final Steps RICH = TALE.then(refusedScript("ear 12")).then(refusedScript("round;deny 3"))
            .then(typed("round 1"));

    /** Twelve listeners, all 66 links, four rumours, and a script buffer of 60 characters. */
    static final Steps FULL = TWELVE.then(linkAll(12)).then(x -> {
        x.startRumour(0, 0);
        x.startRumour(11, 9);
        x.startRumour(5, 4);
        x.advance(1);
        x.startRumour(11, 7);
        x.deny(2);
        x.save();
    }).then(typed("deny 0;round;round;round;round;round;round;round;round;round"));

    static RumourHives after(Steps scene) {
        RumourHives x = new RumourHives();
        scene.on(x);
        return x;
    }

    // ---- looking

    /** The answer of a call, or the class of its exception. */
    static Object outcome(RumourHives x, Ask call) {
        try {
            return call.of(x);
        } catch (RuntimeException e) {
            return e.getClass();
        }
    }

    /** All that undo and the snapshot cover. */
    static String state(RumourHives x) {
        int count = x.listenerCount();
        StringBuilder text = new StringBuilder("listeners");
        for (int one = 0; one < count; one++) {
            text.append(' ').append(x.hive(one)).append('/').append(x.doubt(one));
            for (int other = 0; other < one; other++) {
                text.append(x.isLinked(one, other) ? "L" : "");
            }
        }
        text.append(", links ").append(x.linkCount()).append(", round ").append(x.round())
                .append(", heard ").append(x.heardTotal()).append(", checks ").append(x.successfulChecks());
        for (int rumour = 0; rumour < x.rumourCount(); rumour++) {
            text.append(", ").append(rumourState(x, rumour, count));
        }
        return text.toString();
    }

    private static String rumourState(RumourHives x, int rumour, int count) {
        StringBuilder text = new StringBuilder("rumour by " + x.starter(rumour) + " of " + x.strength(rumour)
                + (x.isAlive(rumour) ? " alive" : " denied"));
        for (int listener = 0; listener < count; listener++) {
            int one = listener;
            text.append(x.isSpreader(rumour, one) ? " +" : " ").append(x.isSceptic(rumour, one) ? "-" : "");
            text.append(outcome(x, y -> y.heardRound(rumour, one)));
        }
        return text.toString();
    }

    static String output(RumourHives x) {
        StringBuilder text = new StringBuilder();
        for (int index = 0; index < 100; index++) {
            int at = index;
            Object character = outcome(x, y -> y.outputAt(at));
            if (!(character instanceof Character)) {
                return text.toString();
            }
            text.append(character);
        }
        return text.toString();
    }

    /** The script in the buffer, as far as its length and its run tell of it. */
    static String buffer(Steps scene) {
        RumourHives x = after(scene);
        return outcome(after(scene), y -> y.type('~')) + " " + outcome(x, RumourHives::runScript)
                + " " + marks(x) + " " + state(x);
    }

    static String marks(RumourHives x) {
        return outcome(x, RumourHives::errorPosition) + " " + outcome(x, RumourHives::failedCommand);
    }

    static List<String> pastStates(Steps scene) {
        List<String> states = new ArrayList<>();
        for (int depth = 1; depth <= 9; depth++) {
            RumourHives x = after(scene);
            Object left = "";
            for (int i = 0; i < depth; i++) {
                left = outcome(x, RumourHives::undo);
            }
            states.add(left + " left, " + state(x));
        }
        return states;
    }

    static String snapshot(Steps scene) {
        RumourHives x = after(scene);
        Object restored = outcome(x, RumourHives::restore);
        if (restored instanceof Class) {
            return restored.toString();
        }
        return restored + " " + outcome(x, RumourHives::undo) + " " + state(x);
    }

    /** All that an object shows after a scene. */
    static List<String> sight(Steps scene) {
        List<String> sight = pastStates(scene);
        sight.add(state(after(scene)));
        sight.add("output " + output(after(scene)));
        sight.add("marks " + marks(after(scene)));
        sight.add("buffer " + buffer(scene));
        sight.add("snapshot " + snapshot(scene));
        return sight;
    }

    // ---- comparing

    static void same(String what, Object got, Object due) {
        if (!due.equals(got)) {
            wrong(what + " is " + got + ", due is " + due);
        }
    }

    static void wrong(String text) {
        wrongHere++;
        System.out.println(running + ": " + text);
    }

    static void answers(Object due, Steps scene, Ask call) {
        same("the answer", outcome(after(scene), call), due);
    }

    /** The call throws exactly this exception and changes nothing that can be seen. */
    static void refused(Class<?> due, Steps scene, Ask call) {
        answers(due, scene, call);
        changesNothing(scene, call);
    }

    static void changesNothing(Steps scene, Ask call) {
        same("what is seen afterwards", sight(scene.then(x -> outcome(x, call))), sight(scene));
    }

    static void test(String sentence, Runnable body) {
        running = sentence;
        wrongHere = 0;
        try {
            body.run();
        } catch (RuntimeException e) {
            wrong("stopped by " + e);
            e.printStackTrace(System.out);
        }
        if (wrongHere == 0) {
            passed++;
        } else {
            failed++;
        }
    }

    /** Tests that all arguments outside least to greatest are refused, each kind of them on its own. */
    static void outside(String what, Class<?> due, Steps scene, int least, int greatest, AskAt call) {
        test(what + ": just below the least", () -> refused(due, scene, x -> call.of(x, least - 1)));
        test(what + ": just above the greatest", () -> refused(due, scene, x -> call.of(x, greatest + 1)));
        test(what + ": far below", () -> refused(due, scene, x -> call.of(x, Integer.MIN_VALUE)));
        test(what + ": far above", () -> refused(due, scene, x -> call.of(x, Integer.MAX_VALUE)));
        for (int turn : TURNS) {
            if (greatest - turn < least && least + turn > greatest) {
                test(what + ": counted round by " + turn, () -> {
                    refused(due, scene, x -> call.of(x, least + turn));
                    refused(due, scene, x -> call.of(x, greatest - turn));
                });
            }
        }
    }

    /** For an argument that is an index of a listener: among five, among twelve, and where there is none. */
    static void listenerArgument(String what, AskAt call) {
        outside(what + ", of five listeners", INDEX, RICH, 0, 4, call);
        outside(what + ", of twelve listeners", INDEX, FULL, 0, 11, call);
    }

    /** For an argument that is the index of a rumour: among three, among four, and where there is none. */
    static void rumourArgument(String what, AskAt call) {
        outside(what + ", of three rumours", INDEX, RICH, 0, 2, call);
        outside(what + ", of four rumours", INDEX, FULL, 0, 3, call);
        test(what + ": no rumour at all", () -> refused(INDEX, ears(5), x -> call.of(x, 0)));
    }

    static void hiveArgument(String what, Class<?> due, AskAt call) {
        outside(what, due, RICH, 0, 3, call);
    }

    static void finish() {
        System.out.println(passed + " passed, " + failed + " failed");
        if (failed != 0) {
            System.exit(1);
        }
    }
}
