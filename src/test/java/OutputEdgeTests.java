/** The edges of promises 44 to 47: the output text, and typing into the script buffer. */
public final class OutputEdgeTests extends Bench {

    private static void renders(String due, Steps scene, Ask render) {
        RumourHives x = after(scene);
        same("the length", outcome(x, render), due.length());
        same("the text", output(x), due);
    }

    private static void promise44() {
        rumourArgument("44: the rumour", RumourHives::renderRumour);
        test("44: the shortest text", () ->
                renders("r0:5+", ears(9).then(x -> x.startRumour(0, 5)), x -> x.renderRumour(0)));
        test("44: the longest text", () -> renders("r3:7x...........+", FULL.then(x -> x.deny(3)), x -> x.renderRumour(3)));
        test("44: the least strength", () ->
                renders("r0:0+", ears(9).then(x -> x.startRumour(0, 0)), x -> x.renderRumour(0)));
        test("44: the greatest strength and the greatest index", () ->
                renders("r3:9+", ears(9).then(times(4, x -> x.startRumour(0, 9))), x -> x.renderRumour(3)));
        test("44: an alive one without spreaders", () -> renders("r1:1...-.", RICH, x -> x.renderRumour(1)));
        test("44: a denied one", () -> renders("r2:9x.+...", RICH, x -> x.renderRumour(2)));
        test("44: an answered one has no x", () -> renders("r2:3.+...", RICH.then(x -> x.answer(2, 3)), x -> x.renderRumour(2)));
        test("44: all three stands", () -> renders("r0:4++-..", RICH, x -> x.renderRumour(0)));
        test("44: it replaces a longer text", () ->
                renders("r0:5+", ears(9).then(x -> x.startRumour(0, 5)).then(x -> x.deny(0)).then(x -> x.renderRumour(0))
                        .then(x -> x.answer(0, 5)), x -> x.renderRumour(0)));
        test("44: it replaces a shorter text", () -> renders("r0:4++-..", RICH.then(x -> x.renderHive(2)), x -> x.renderRumour(0)));
        test("44: the text stays what it was when the rumour changes", () ->
                same("the text", output(after(RICH.then(x -> x.renderRumour(0)).then(x -> x.deny(0)))), "r0:4++-.."));
        test("44: rendering changes nothing but the text", () -> changesOnlyTheText(x -> x.renderRumour(0)));
    }

    private static void changesOnlyTheText(Ask render) {
        Steps rendered = RICH.then(render::of);
        same("the state", state(after(rendered)), state(after(RICH)));
        same("what can be undone", pastStates(rendered), pastStates(RICH));
        same("the buffer", buffer(rendered), buffer(RICH));
        same("the marks", marks(after(rendered)), marks(after(RICH)));
        same("the snapshot", snapshot(rendered), snapshot(RICH));
    }

    private static Steps allInOne(int hive) {
        return times(12, x -> x.addListener(hive, 0));
    }

    private static void promise45() {
        hiveArgument("45: the hive", INDEX, RumourHives::renderHive);
        outside("45: the hive where nobody is", INDEX, NEW, 0, 3, RumourHives::renderHive);
        test("45: empty if the hive has no listeners", () -> renders("", RICH, x -> x.renderHive(2)));
        test("45: empty if there are no listeners", () -> renders("", NEW, x -> x.renderHive(0)));
        test("45: empty in the place of a text", () ->
                renders("", RICH.then(x -> x.renderHive(0)), x -> x.renderHive(2)));
        test("45: one listener has no comma", () -> renders("3", RICH, x -> x.renderHive(3)));
        test("45: two listeners have one comma", () -> renders("0,4", RICH, x -> x.renderHive(0)));
        test("45: all twelve in the least hive", () ->
                renders("0,1,2,3,4,5,6,7,8,9,10,11", allInOne(0), x -> x.renderHive(0)));
        test("45: all twelve in the greatest hive", () ->
                renders("0,1,2,3,4,5,6,7,8,9,10,11", allInOne(3), x -> x.renderHive(3)));
        test("45: none in another hive", () -> renders("", allInOne(3), x -> x.renderHive(0)));
        test("45: from one digit to two", () -> renders("9,10", TWELVE.then(x -> {
            x.moveListener(1, 0);
            x.moveListener(5, 0);
            x.moveListener(10, 1);
        }), x -> x.renderHive(1)));
        test("45: two digits alone", () -> renders("11", TWELVE.then(x -> {
            x.moveListener(3, 0);
            x.moveListener(7, 0);
        }), x -> x.renderHive(3)));
        test("45: ascending, whatever the order of the moves", () -> renders("0,1,2,3,4", RICH.then(x -> {
            x.moveListener(4, 2);
            x.moveListener(0, 2);
            x.moveListener(3, 2);
            x.moveListener(1, 2);
            x.moveListener(2, 2);
        }), x -> x.renderHive(2)));
        test("45: it replaces a rumour's text", () ->
                renders("3", RICH.then(x -> x.renderRumour(0)), x -> x.renderHive(3)));
        test("45: rendering changes nothing but the text", () -> changesOnlyTheText(x -> x.renderHive(2)));
    }

    private static void promise46() {
        test("46: the text is empty initially", () -> refused(INDEX, NEW, x -> x.outputAt(0)));
        outside("46: the index, of no text", INDEX, NEW, 0, -1, RumourHives::outputAt);
        outside("46: the index, of three characters", INDEX, RICH, 0, 2, RumourHives::outputAt);
        outside("46: the index, of one character", INDEX, RICH.then(x -> x.renderHive(3)), 0, 0, RumourHives::outputAt);
        outside("46: the index, of 25 characters", INDEX, allInOne(1).then(x -> x.renderHive(1)), 0, 24,
                RumourHives::outputAt);
        outside("46: the index, of a text that was longer before", INDEX,
                allInOne(1).then(x -> x.renderHive(1)).then(x -> x.renderHive(0)), 0, -1, RumourHives::outputAt);
        test("46: the first character", () -> answers('1', RICH, x -> x.outputAt(0)));
        test("46: the last character", () -> answers('2', RICH, x -> x.outputAt(2)));
        test("46: between them", () -> answers(',', RICH, x -> x.outputAt(1)));
        test("46: the last of the longest texts", () -> {
            answers('1', allInOne(1).then(x -> x.renderHive(1)), x -> x.outputAt(24));
            answers('+', FULL.then(x -> x.renderRumour(3)), x -> x.outputAt(15));
            answers(INDEX, FULL.then(x -> x.renderRumour(3)), x -> x.outputAt(16));
        });
        test("46: looking changes nothing", () -> changesNothing(RICH, x -> x.outputAt(0)));
    }

    private static Object typeCode(RumourHives x, int code) {
        return x.type((char) code);
    }

    private static void promise47() {
        test("47: just below the least code, 31", () -> refused(ARGUMENT, RICH, x -> typeCode(x, 31)));
        test("47: the least code, 32", () -> answers(1, NEW, x -> typeCode(x, 32)));
        test("47: the greatest code, 126", () -> answers(1, NEW, x -> typeCode(x, 126)));
        test("47: just above the greatest code, 127", () -> refused(ARGUMENT, RICH, x -> typeCode(x, 127)));
        test("47: the least character, 0", () -> refused(ARGUMENT, RICH, x -> typeCode(x, 0)));
        test("47: the greatest character, 65535", () -> refused(ARGUMENT, RICH, x -> typeCode(x, 65535)));
        test("47: codes counted round", () -> {
            refused(ARGUMENT, RICH, x -> typeCode(x, 128 + 'a'));
            refused(ARGUMENT, RICH, x -> typeCode(x, 256 + 'a'));
            refused(ARGUMENT, RICH, x -> typeCode(x, 32768 + 'a'));
        });
        test("47: all codes from 32 to 126", () -> {
            for (int code = 0; code <= 300; code++) {
                Object due = code >= 32 && code <= 126 ? (Object) 1 : ARGUMENT;
                same("type of " + code, typeOf(code), due);
            }
        });
        test("47: the lengths 1 to 60", () -> {
            RumourHives x = new RumourHives();
            for (int length = 1; length <= 60; length++) {
                same("type", x.type('a'), length);
            }
        });
        test("47: a sixty-first is refused", () -> refused(STATE, FULL, x -> x.type('0')));
        test("47: a sixty-first that is no such character: the exception listed first", () -> {
            refused(ARGUMENT, FULL, x -> typeCode(x, 31));
            refused(ARGUMENT, FULL, x -> typeCode(x, 127));
        });
        test("47: after the run there is room for 60 again", () -> {
            RumourHives x = after(FULL.then(y -> outcome(y, RumourHives::runScript)));
            for (int length = 1; length <= 60; length++) {
                same("type", x.type('a'), length);
            }
            same("a sixty-first", outcome(x, y -> y.type('a')), STATE);
        });
        test("47: the sixtieth character is run", () -> {
            String script = "round;round;round;round;round;round;round;round;round;deny 0";
            same("its length", script.length(), 60);
            answers(10, ears(0).then(x -> x.startRumour(0, 0)).then(typed(script)), RumourHives::runScript);
            answers(false, ears(0).then(x -> x.startRumour(0, 0)).then(script(script)), x -> x.isAlive(0));
        });
        test("47: a refused character is not in the script", () ->
                answers(1, typed("rou").then(x -> outcome(x, y -> y.type('\n'))).then(typed("nd")),
                        RumourHives::runScript));
    }

    private static Object typeOf(int code) {
        return outcome(new RumourHives(), x -> typeCode(x, code));
    }

    public static void main(String[] args) {
        promise44();
        promise45();
        promise46();
        promise47();
        finish();
    }
}
