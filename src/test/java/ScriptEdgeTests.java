import java.util.HashSet;
import java.util.List;
import java.util.Set;

/** The edges of promises 48 to 50: the form of scripts, running them, and the marks of refused ones. */
public final class ScriptEdgeTests extends Bench {
    private static final String[] FORMS = {"ear 5 5", "link 5 5", "link 55 5", "link 5 55", "link 55 55", "cut 5 5",
        "cut 55 5", "cut 5 55", "cut 55 55", "start 5 5", "start 55 5", "check 5 5", "check 5 55", "deny 5",
        "answer 5 5", "move 5 5", "move 55 5", "round", "round 5", "round 55"};
    private static final String TEN = "round;round;round;round;round;round;round;round;round;round";

    // ---- what a script does

    /** The script has the same effect as the calls, and is one change. */
    private static void runs(int due, Steps scene, String text, Steps calls) {
        answers(due, scene.then(typed(text)), RumourHives::runScript);
        Steps run = scene.then(script(text));
        same("the state after " + text, state(after(run)), state(after(scene.then(calls))));
        same("the state after an undo of " + text, state(after(run.then(RumourHives::undo))), state(after(scene)));
        same("the length of the buffer", outcome(after(run), x -> x.type('r')), 1);
        same("the marks", marks(after(run)), marks(after(scene)));
        same("the text", output(after(run)), output(after(scene)));
        same("the snapshot", snapshot(run), snapshot(scene));
    }

    private static void runs(String text, Steps calls) {
        test("48: " + text, () -> runs(1, TALE, text, calls));
    }

    private static void commands() {
        runs("ear 0 0", x -> x.addListener(0, 0));
        runs("ear 3 9", x -> x.addListener(3, 9));
        runs("link 0 4", x -> x.link(0, 4));
        runs("link 00 04", x -> x.link(0, 4));
        runs("cut 3 2", x -> x.unlink(3, 2));
        runs("cut 03 02", x -> x.unlink(3, 2));
        runs("start 0 0", x -> x.startRumour(0, 0));
        runs("start 04 9", x -> x.startRumour(4, 9));
        runs("check 0 0", x -> x.check(0, 0));
        runs("check 0 01", x -> x.check(0, 1));
        runs("deny 0", x -> x.deny(0));
        runs("deny 1", x -> x.deny(1));
        runs("answer 2 0", x -> x.answer(2, 0));
        runs("answer 2 9", x -> x.answer(2, 9));
        runs("move 0 3", x -> x.moveListener(0, 3));
        runs("move 04 1", x -> x.moveListener(4, 1));
        runs("round", x -> x.advance(1));
        runs("round 1", x -> x.advance(1));
        runs("round 01", x -> x.advance(1));
        runs("round 2", x -> x.advance(2));
        runs("round 10", x -> x.advance(10));
        runs("round 20", x -> x.advance(20));
        test("48: numbers of two digits", () -> runs(4, TWELVE, "link 10 11;start 11 9;move 11 0;round", x -> {
            x.link(10, 11);
            x.startRumour(11, 9);
            x.moveListener(11, 0);
            x.advance(1);
        }));
        test("48: a check and a cut of numbers with two digits", () ->
                runs(2, TWELVE.then(x -> x.link(10, 11)).then(x -> x.startRumour(11, 0)), "check 0 11;cut 11 10", x -> {
                    x.check(0, 11);
                    x.unlink(11, 10);
                }));
        test("48: the fewest commands, 1", () -> answers(1, typed("round"), RumourHives::runScript));
        test("48: the most commands, 10", () -> runs(10, TALE, TEN, x -> x.advance(10)));
        test("48: a script of 60 characters", () -> runs(10, TALE, TEN.substring(0, 54) + "deny 1", x -> {
            x.advance(9);
            x.deny(1);
        }));
        test("48: in order, each seeing those before it", () ->
                runs(6, NEW, "ear 0 0;ear 0 5;link 0 1;start 0 9;round;deny 0", x -> {
                    x.addListener(0, 0);
                    x.addListener(0, 5);
                    x.link(0, 1);
                    x.startRumour(0, 9);
                    x.advance(1);
                    x.deny(0);
                }));
        test("48: a script with the same state afterwards is a change", () -> {
            Steps scene = ears(0, 0).then(RumourHives::save).then(RumourHives::restore);
            answers(0, scene.then(script("link 0 1;cut 0 1")), RumourHives::undo);
        });
    }

    // ---- scripts that are refused

    private static void refusedRun(Class<?> due, Steps scene, String text, String marks) {
        answers(due, scene.then(typed(text)), RumourHives::runScript);
        Steps run = scene.then(refusedScript(text));
        same("the state after " + text, state(after(run)), state(after(scene)));
        same("what can be undone after " + text, pastStates(run), pastStates(scene));
        same("the snapshot after " + text, snapshot(run), snapshot(scene));
        same("the output after " + text, output(after(run)), output(after(scene)));
        same("the marks after " + text, marks(after(run)), marks);
        same("the buffer's length after " + text, outcome(after(run), x -> x.type('r')), 1);
        answers(1, run.then(typed("round")), RumourHives::runScript);
    }

    private static void fails(Steps scene, String text, int command) {
        test("48: " + text, () -> refusedRun(STATE, scene, text, ELEMENT + " " + command));
    }

    private static void failingCommands() {
        String[] alone = {"ear 4 0", "ear 9 9", "link 5 0", "link 0 5", "link 99 99", "link 0 99", "link 1 1", "link 01 1",
            "link 0 1", "link 1 0", "cut 5 0", "cut 0 5", "cut 0 2", "cut 1 1", "start 5 0", "start 99 9", "check 3 0",
            "check 0 5", "check 9 99", "check 0 4", "check 0 2", "check 1 3", "deny 3", "deny 9", "deny 2", "answer 3 0",
            "answer 9 9", "answer 0 5", "move 5 0", "move 99 9", "move 0 4", "move 0 9", "move 0 0", "round 0", "round 00",
            "round 21", "round 99"};
        for (String text : alone) {
            fails(TALE, text, 0);
            fails(TALE, "round;" + text, 1);
            fails(TALE, text + ";round", 0);
        }
        fails(TWELVE, "ear 0 0", 0);
        fails(TWELVE, "link 12 0", 0);
        fails(FULL.then(x -> outcome(x, RumourHives::runScript)).then(RumourHives::undo), "start 0 0", 0);
        fails(NEW, "start 0 0", 0);
        fails(NEW, "deny 0", 0);
        fails(ears(0, 0, 0, 0, 0, 0), "ear 0 0;ear 0 0;ear 0 0;ear 0 0;ear 0 0;ear 0 0;ear 0 0", 6);
        fails(ears(0), "start 0 1;start 0 1;start 0 1;start 0 1;start 0 1", 4);
        fails(TALE, "link 0 2;link 0 2", 1);
        fails(TALE, "cut 0 1;cut 0 1", 1);
        fails(TALE, "deny 0;deny 0", 1);
        fails(TALE, "answer 2 1;answer 2 1", 1);
        fails(TALE, "move 0 2;move 0 2", 1);
        fails(TALE, "deny 0;answer 0 1;check 0 1;check 0 1", 3);
        fails(TALE, "ear 0 1;link 5 0;round 20;start 5 9;deny 0;cut 0 3", 5);
        test("48: the first of two failed commands", () ->
                refusedRun(STATE, TALE, "round;deny 2;deny 3;round", ELEMENT + " 1"));
        test("48: the last of ten commands", () ->
                refusedRun(STATE, TALE, TEN.substring(0, 54) + "deny 9", ELEMENT + " 9"));
        test("48: nothing can be undone after a failed script on a new object", () ->
                refused(ELEMENT, refusedScript("ear 0 0;ear 4 0"), RumourHives::undo));
        String[] kinds = {"ear 0 1", "link 0 4", "cut 0 1", "start 4 3", "deny 0;answer 0 1;check 0 1", "deny 0",
            "answer 2 3", "move 0 2", "round 7"};
        for (String kind : kinds) {
            test("48: " + kind + " takes no effect before a failed command", () ->
                    refusedRun(STATE, TALE, kind + ";deny 9", ELEMENT + " " + kind.split(";").length));
        }
    }

    private static void form() {
        test("48: an empty script has not the form", () -> refusedRun(ARGUMENT, TALE, "", "0 " + ELEMENT));
        test("48: an empty script on a new object", () -> answers(ARGUMENT, NEW, RumourHives::runScript));
        test("48: the buffer is empty after a script that ran", () ->
                answers(ARGUMENT, script("round"), RumourHives::runScript));
        test("48: the buffer is empty after a script of the wrong form", () ->
                answers(0, refusedScript("deny").then(x -> outcome(x, RumourHives::runScript)), RumourHives::errorPosition));
        test("48: the buffer is empty after a failed script", () -> {
            answers(ARGUMENT, refusedScript("deny 0"), RumourHives::runScript);
            answers(0, refusedScript("deny 0").then(x -> outcome(x, RumourHives::runScript)), RumourHives::errorPosition);
        });
        test("48: a wrong form and a failing command: the exception listed first", () ->
                refusedRun(ARGUMENT, TALE, "deny 9;deny", "11 " + ELEMENT));
        test("48: a wrong form takes no effect", () -> refusedRun(ARGUMENT, TALE, "round;deny 0;ear 0 0;", "21 " + ELEMENT));
        test("48: sixty characters of a wrong form", () ->
                refusedRun(ARGUMENT, TALE, TEN + ";", "60 " + ELEMENT));
        test("48: sixty characters, the last one wrong", () ->
                refusedRun(ARGUMENT, TALE, TEN + "!", "59 " + ELEMENT));
        test("48: sixty characters, the first one wrong", () ->
                refusedRun(ARGUMENT, TALE, "?".repeat(60), "0 " + ELEMENT));
    }

    // ---- the error position

    private static void position(String text, int due) {
        test("49: error position of \"" + text + "\"", () -> {
            refusedRun(ARGUMENT, NEW, text, due + " " + ELEMENT);
            refusedRun(ARGUMENT, NEW, "round;" + text, 6 + due + " " + ELEMENT);
            refusedRun(ARGUMENT, NEW, "link 12 3;round 7;" + text, 18 + due + " " + ELEMENT);
        });
    }

    private static void firstWords() {
        position("", 0);
        position(";", 0);
        position(" ", 0);
        position("5", 0);
        position("x", 0);
        position("Ear 1 2", 0);
        position(" round", 0);
        String[] words = {"ear", "link", "cut", "start", "check", "deny", "answer", "move"};
        for (String word : words) {
            for (int end = 0; end <= word.length(); end++) {
                position(word.substring(0, end), end);
                position(word.substring(0, end) + "!", end);
            }
            position(word + " ", word.length() + 1);
            position(word + ";", word.length());
            position(word + "1", word.length());
            position(word + "  1", word.length() + 1);
            position(word + " x", word.length() + 1);
            position(word + " /", word.length() + 1);
            position(word + " :", word.length() + 1);
            position(word + " -1", word.length() + 1);
        }
        position("chut 1 2", 2);
        position("cueck 1 2", 2);
        position("ca", 1);
        position("deer 1", 2);
        position("ek 1 2", 1);
        position("roun", 4);
        position("roun 1", 4);
        position("rounds", 5);
    }

    private static void oneDigit() {
        position("ear 12 3", 5);
        position("ear 1", 5);
        position("ear 1;", 5);
        position("ear 1 ", 6);
        position("ear 1 23", 7);
        position("ear 1 2 ", 7);
        position("ear 1 2 3", 7);
        position("ear 0 /", 6);
        position("ear 9 :", 6);
        position("check 12 3", 7);
        position("deny 12", 6);
        position("deny 1 2", 6);
        position("answer 12 3", 8);
        position("answer 1 23", 10);
        position("start 1 23", 9);
        position("start 12 34", 10);
        position("move 1 23", 8);
        position("move 12 34", 9);
    }

    private static void oneOrTwoDigits() {
        position("link 1", 6);
        position("link 12", 7);
        position("link 123 4", 7);
        position("link 1;", 6);
        position("link 1  2", 7);
        position("link 1 ", 7);
        position("link 12 ", 8);
        position("link 1 234", 9);
        position("link 12 345", 10);
        position("link 1 2 ", 8);
        position("link 12 34 ", 10);
        position("link 1:", 6);
        position("link 1 2/", 8);
        position("cut 123", 6);
        position("cut 1 234", 8);
        position("start 123", 8);
        position("start 12", 8);
        position("check 1 234", 10);
        position("move 123", 7);
    }

    private static void optionalNumber() {
        position("round ", 6);
        position("round  1", 6);
        position("round ;", 6);
        position("round x", 6);
        position("round 123", 8);
        position("round 1 ", 7);
        position("round 12 ", 8);
        position("round 1 2", 7);
        position("round 1x", 7);
        position("round1", 5);
        position("round/", 5);
        position("round;", 6);
        position("round;;", 6);
        position("round; round", 6);
        position("round,round", 5);
        position(";round", 0);
    }

    /** The index of the first character that cannot continue, or -1 for a script of the form. */
    private static int positionIn(String script, Set<String> starts, Set<String> wholes) {
        String command = "";
        for (int index = 0; index < script.length(); index++) {
            char character = script.charAt(index);
            char kind = character >= '0' && character <= '9' ? '5' : character;
            if (kind == ';' && wholes.contains(command)) {
                command = "";
            } else if (starts.contains(command + kind)) {
                command += kind;
            } else {
                return index;
            }
        }
        return wholes.contains(command) ? -1 : script.length();
    }

    private static void everyPlace() {
        Set<String> starts = new HashSet<>();
        Set<String> wholes = new HashSet<>();
        for (String form : FORMS) {
            wholes.add(form);
            for (int end = 1; end <= form.length(); end++) {
                starts.add(form.substring(0, end));
            }
        }
        for (String form : FORMS) {
            test("49: one wrong character anywhere in " + form, () -> {
                for (int place = 0; place <= form.length(); place++) {
                    for (char character = ' '; character <= '~'; character++) {
                        String head = form.substring(0, place);
                        String tail = form.substring(Math.min(form.length(), place + 1));
                        formOf(head + character + tail, starts, wholes);
                        formOf("round 5;" + head + character + form.substring(place) + ";ear 0 0", starts, wholes);
                        formOf(head + tail + character + "link 1 23", starts, wholes);
                    }
                }
            });
        }
    }

    private static void formOf(String text, Set<String> starts, Set<String> wholes) {
        RumourHives x = after(typed(text));
        int due = positionIn(text, starts, wholes);
        Object run = outcome(x, RumourHives::runScript);
        same("the form of " + text, run == ARGUMENT, due >= 0);
        same("the position of " + text, outcome(x, RumourHives::errorPosition), due >= 0 ? due : ELEMENT);
    }

    private static void shorterScripts() {
        test("48: a shorter script after a longer one", () -> {
            answers(13, script("round 12").then(script("round 1")), RumourHives::round);
            answers(4, script("round 2;round 1").then(script("round")), RumourHives::round);
        });
        for (String form : FORMS) {
            test("49: what is left of " + form + " after its whole", () -> {
                for (int end = form.length() - 1; end >= 0; end--) {
                    RumourHives x = after(typed(form).then(y -> outcome(y, RumourHives::runScript)));
                    String text = form.substring(0, end);
                    typed(text).on(x);
                    boolean whole = List.of(FORMS).contains(text);
                    same("the run of " + text, outcome(x, RumourHives::runScript) == ARGUMENT, !whole);
                    if (!whole) {
                        same("the position of " + text, x.errorPosition(), end);
                    }
                }
            });
        }
    }

    // ---- the marks of refused scripts

    private static void marksOfScripts() {
        test("49: no script yet", () -> refused(ELEMENT, NEW, RumourHives::errorPosition));
        test("49: a script that is typed and not run", () -> refused(ELEMENT, typed("bad"), RumourHives::errorPosition));
        test("49: a script that ran is no such script", () -> refused(ELEMENT, script("round"), RumourHives::errorPosition));
        test("49: a failed script is no such script", () -> refused(ELEMENT, refusedScript("deny 0"), RumourHives::errorPosition));
        test("49: the latest of two, the second one smaller", () ->
                answers(0, refusedScript("ear 12").then(refusedScript("x")), RumourHives::errorPosition));
        test("49: the latest of two, the second one greater", () ->
                answers(5, refusedScript("x").then(refusedScript("ear 12")), RumourHives::errorPosition));
        test("49: it stays after a script that ran", () ->
                answers(5, refusedScript("ear 12").then(script("round")), RumourHives::errorPosition));
        test("49: it stays after a failed script", () ->
                answers(5, refusedScript("ear 12").then(refusedScript("deny 0")), RumourHives::errorPosition));
        test("49: the least, 0, and the greatest, 60", () -> {
            answers(0, refusedScript(""), RumourHives::errorPosition);
            answers(60, refusedScript(TEN + ";"), RumourHives::errorPosition);
        });
        test("49: looking changes nothing", () -> changesNothing(RICH, RumourHives::errorPosition));
        test("50: no script yet", () -> refused(ELEMENT, NEW, RumourHives::failedCommand));
        test("50: a script that is typed and not run", () -> refused(ELEMENT, typed("deny 0"), RumourHives::failedCommand));
        test("50: a script that ran is no such script", () -> refused(ELEMENT, script("round"), RumourHives::failedCommand));
        test("50: a script of the wrong form is no such script", () ->
                refused(ELEMENT, refusedScript("deny 0;"), RumourHives::failedCommand));
        test("50: the latest of two, the second one smaller", () ->
                answers(0, refusedScript("round;deny 0").then(refusedScript("deny 0")), RumourHives::failedCommand));
        test("50: the latest of two, the second one greater", () ->
                answers(1, refusedScript("deny 0").then(refusedScript("round;deny 0")), RumourHives::failedCommand));
        test("50: it stays after a script that ran", () ->
                answers(1, refusedScript("round;deny 0").then(script("round;round")), RumourHives::failedCommand));
        test("50: it stays after a script of the wrong form", () ->
                answers(1, refusedScript("round;deny 0").then(refusedScript("deny")), RumourHives::failedCommand));
        test("50: the least, 0, and the greatest, 9", () -> {
            answers(0, refusedScript("deny 0;round"), RumourHives::failedCommand);
            answers(9, refusedScript(TEN.substring(0, 54) + "deny 0"), RumourHives::failedCommand);
        });
        test("50: looking changes nothing", () -> changesNothing(RICH, RumourHives::failedCommand));
    }

    public static void main(String[] args) {
        commands();
        failingCommands();
        form();
        firstWords();
        oneDigit();
        oneOrTwoDigits();
        optionalNumber();
        everyPlace();
        shorterScripts();
        marksOfScripts();
        finish();
    }
}
