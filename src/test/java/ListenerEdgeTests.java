import java.util.Arrays;

/** The edges of promises 1 to 5 and 11 to 19: a new object, listeners, links, hives and components. */
public final class ListenerEdgeTests extends Bench {
    private static final int[][] PAIRS = {{0, 1}, {0, 2}, {1, 2}, {0, 3}, {1, 3}, {2, 3}};

    private static void promise1() {
        test("1: no listeners", () -> answers(0, NEW, RumourHives::listenerCount));
        test("1: no listener 0", () -> refused(INDEX, NEW, x -> x.hive(0)));
        test("1: no rumours", () -> answers(0, NEW, RumourHives::rumourCount));
        test("1: no rumour 0", () -> refused(INDEX, NEW, x -> x.strength(0)));
        test("1: at round 0", () -> answers(0, NEW, RumourHives::round));
        test("1: no links", () -> answers(0, NEW, RumourHives::linkCount));
        test("1: nobody has heard anything", () -> answers(0, NEW, RumourHives::heardTotal));
        test("1: no checks", () -> answers(0, NEW, RumourHives::successfulChecks));
        test("1: all hives are empty", () -> {
            for (int hive = 0; hive < 4; hive++) {
                int one = hive;
                answers(0, NEW, x -> x.hiveSize(one));
            }
        });
        test("1: an object is new whatever another one went through", () -> {
            RumourHives first = after(FULL);
            same("a second object", state(new RumourHives()), state(after(NEW)));
            same("the first object", first.listenerCount(), 12);
        });
        test("1: the 512th call answers as due", () -> {
            RumourHives x = after(ears(9).then(times(508, y -> y.advance(20))));
            x.startRumour(0, 0);
            same("round", x.round(), 10160);
            same("heardRound, the 512th call", x.heardRound(0, 0), 10160);
        });
    }

    private static void promise2() {
        test("2: the least hive, 0", () -> added(0, 5));
        test("2: the greatest hive, 3", () -> added(3, 5));
        test("2: the least doubt, 0", () -> added(1, 0));
        test("2: the greatest doubt, 9", () -> added(1, 9));
        outside("2: the hive", ARGUMENT, NEW, 0, 3, (x, hive) -> x.addListener(hive, 5));
        outside("2: the doubt", ARGUMENT, NEW, 0, 9, (x, doubt) -> x.addListener(0, doubt));
        test("2: both arguments are wrong", () -> refused(ARGUMENT, RICH, x -> x.addListener(4, 10)));
        test("2: indices 0 to n - 1 in the order of adding", () -> {
            RumourHives x = new RumourHives();
            for (int i = 0; i < 12; i++) {
                same("addListener", x.addListener(3 - i % 4, 9 - i % 10), i);
            }
            for (int i = 0; i < 12; i++) {
                same("hive of " + i, x.hive(i), 3 - i % 4);
                same("doubt of " + i, x.doubt(i), 9 - i % 10);
            }
        });
        test("2: the twelfth is added", () ->
                answers(11, ears(0, 0, 0, 0, 0, 0, 0, 0, 0, 0, 0), x -> x.addListener(0, 0)));
        test("2: a thirteenth is refused", () -> refused(STATE, TWELVE, x -> x.addListener(0, 0)));
        test("2: a thirteenth is refused where all is full", () -> refused(STATE, FULL, x -> x.addListener(3, 9)));
        test("2: a thirteenth in no hive: the exception listed first", () -> {
            refused(ARGUMENT, TWELVE, x -> x.addListener(-1, 0));
            refused(ARGUMENT, TWELVE, x -> x.addListener(4, 0));
        });
        test("2: a thirteenth with no doubt: the exception listed first", () -> {
            refused(ARGUMENT, TWELVE, x -> x.addListener(0, -1));
            refused(ARGUMENT, TWELVE, x -> x.addListener(0, 10));
        });
        test("2: after an undo there is room for a twelfth again", () ->
                answers(11, TWELVE.then(RumourHives::undo), x -> x.addListener(0, 0)));
        test("2: a new listener has no links", () -> {
            RumourHives x = after(chain(0, 0).then(RumourHives::save).then(y -> y.link(1, y.addListener(0, 0))));
            x.restore();
            same("the index", x.addListener(2, 1), 2);
            same("links of one who was linked before the restore", x.neighbourCount(2), 0);
        });
    }

    private static void added(int hive, int doubt) {
        RumourHives x = new RumourHives();
        same("addListener", x.addListener(hive, doubt), 0);
        same("hive", x.hive(0), hive);
        same("doubt", x.doubt(0), doubt);
        same("listenerCount", x.listenerCount(), 1);
    }

    private static void promise3() {
        listenerArgument("3: the first listener", (x, first) -> x.link(first, 0));
        listenerArgument("3: the second listener", (x, second) -> x.link(0, second));
        test("3: no listeners at all", () -> refused(INDEX, NEW, x -> x.link(0, 0)));
        test("3: one listener alone", () -> {
            refused(INDEX, ears(1), x -> x.link(0, 1));
            refused(ARGUMENT, ears(1), x -> x.link(0, 0));
        });
        test("3: both arguments are no listener and equal: the exception listed first", () -> {
            refused(INDEX, RICH, x -> x.link(5, 5));
            refused(INDEX, RICH, x -> x.link(-1, -1));
        });
        test("3: equal arguments, the least", () -> refused(ARGUMENT, RICH, x -> x.link(0, 0)));
        test("3: equal arguments, the greatest", () -> refused(ARGUMENT, FULL, x -> x.link(11, 11)));
        test("3: they are linked", () -> refused(STATE, RICH, x -> x.link(0, 1)));
        test("3: they are linked, a link has no direction", () -> refused(STATE, RICH, x -> x.link(1, 0)));
        test("3: all are linked", () -> {
            refused(STATE, FULL, x -> x.link(0, 11));
            refused(STATE, FULL, x -> x.link(11, 10));
        });
        test("3: the first link", () -> answers(1, ears(0, 0), x -> x.link(1, 0)));
        test("3: the first and the last listener", () -> {
            RumourHives x = after(TWELVE);
            same("link", x.link(11, 0), 1);
            same("isLinked", x.isLinked(0, 11), true);
        });
        test("3: the number of links up to the greatest, 66", () -> {
            RumourHives x = after(TWELVE);
            int due = 0;
            for (int first = 0; first < 12; first++) {
                for (int second = first + 1; second < 12; second++) {
                    due++;
                    same("link", due % 2 == 0 ? x.link(first, second) : x.link(second, first), due);
                }
            }
        });
        test("3: one link alone is made", () -> {
            RumourHives x = after(TWELVE.then(y -> y.link(4, 7)));
            for (int first = 0; first < 12; first++) {
                for (int second = 0; second < 12; second++) {
                    same("isLinked " + first + " " + second, x.isLinked(first, second),
                            first == 4 && second == 7 || first == 7 && second == 4);
                }
            }
        });
    }

    private static void promise4() {
        listenerArgument("4: the first listener", (x, first) -> x.unlink(first, 0));
        listenerArgument("4: the second listener", (x, second) -> x.unlink(0, second));
        test("4: no listeners at all", () -> refused(INDEX, NEW, x -> x.unlink(0, 0)));
        test("4: both arguments are no listener", () -> refused(INDEX, RICH, x -> x.unlink(5, 5)));
        test("4: they are not linked", () -> refused(ELEMENT, RICH, x -> x.unlink(0, 2)));
        test("4: they are not linked, though both have neighbours", () -> refused(ELEMENT, RICH, x -> x.unlink(3, 0)));
        test("4: equal arguments are not linked", () -> {
            refused(ELEMENT, RICH, x -> x.unlink(1, 1));
            refused(ELEMENT, FULL, x -> x.unlink(11, 11));
        });
        test("4: the last link", () -> answers(0, chain(0, 0), x -> x.unlink(0, 1)));
        test("4: a link has no direction", () -> answers(0, chain(0, 0), x -> x.unlink(1, 0)));
        test("4: one of 66", () -> answers(65, FULL, x -> x.unlink(11, 0)));
        test("4: at most one link exists, so it is gone", () -> {
            Steps cut = chain(0, 0, 0).then(x -> x.unlink(1, 0));
            answers(false, cut, x -> x.isLinked(0, 1));
            answers(true, cut, x -> x.isLinked(1, 2));
            refused(ELEMENT, cut, x -> x.unlink(0, 1));
            refused(ELEMENT, cut, x -> x.unlink(1, 0));
        });
        test("4: all links down to none", () -> {
            RumourHives x = after(TWELVE.then(linkAll(12)));
            for (int left = 65, first = 0; first < 12; first++) {
                for (int second = first + 1; second < 12; second++, left--) {
                    same("unlink", x.unlink(first, second), left);
                }
            }
        });
    }

    private static void promise5() {
        listenerArgument("5: the listener", (x, listener) -> x.moveListener(listener, 2));
        hiveArgument("5: the hive", ARGUMENT, (x, hive) -> x.moveListener(0, hive));
        test("5: no listeners at all", () -> refused(INDEX, NEW, x -> x.moveListener(0, 0)));
        test("5: neither listener nor hive: the exception listed first", () -> {
            refused(INDEX, RICH, x -> x.moveListener(5, 4));
            refused(INDEX, RICH, x -> x.moveListener(-1, -1));
        });
        test("5: the listener belongs to this hive", () -> {
            for (int listener = 0; listener < 4; listener++) {
                int one = listener;
                refused(STATE, TWELVE, x -> x.moveListener(one, one));
            }
        });
        test("5: the least hive, and the last listener", () -> {
            RumourHives x = after(TWELVE);
            same("moveListener", x.moveListener(11, 0), 3);
            same("hive", x.hive(11), 0);
        });
        test("5: the greatest hive, and the first listener", () -> {
            RumourHives x = after(TWELVE);
            same("moveListener", x.moveListener(0, 3), 0);
            same("hive", x.hive(0), 3);
        });
        test("5: there and back", () -> {
            RumourHives x = after(ears(1, 1));
            same("moveListener", x.moveListener(1, 2), 0);
            same("moveListener", x.moveListener(1, 0), 2);
            same("hive", x.hive(1), 0);
        });
    }

    private static void promises11To13() {
        test("11: the least, 0", () -> answers(0, NEW, RumourHives::listenerCount));
        test("11: one", () -> answers(1, ears(0), RumourHives::listenerCount));
        test("11: the greatest, 12", () -> answers(12, TWELVE, RumourHives::listenerCount));
        listenerArgument("12: the listener", RumourHives::hive);
        test("12: no listeners at all", () -> refused(INDEX, NEW, x -> x.hive(0)));
        test("12: the first and the last listener", () -> {
            answers(0, FULL, x -> x.hive(0));
            answers(3, FULL, x -> x.hive(11));
        });
        test("12: a moved listener", () -> answers(1, ears(1).then(x -> x.moveListener(0, 1)), x -> x.hive(0)));
        listenerArgument("13: the listener", RumourHives::doubt);
        test("13: no listeners at all", () -> refused(INDEX, NEW, x -> x.doubt(0)));
        test("13: the first and the last listener", () -> {
            answers(0, FULL, x -> x.doubt(0));
            answers(1, FULL, x -> x.doubt(11));
        });
        test("13: the greatest doubt", () -> answers(9, FULL, x -> x.doubt(9)));
    }

    private static void promises14To17() {
        listenerArgument("14: the first listener", (x, first) -> x.isLinked(first, 0));
        listenerArgument("14: the second listener", (x, second) -> x.isLinked(0, second));
        test("14: no listeners at all", () -> refused(INDEX, NEW, x -> x.isLinked(0, 0)));
        test("14: both arguments are no listener", () -> refused(INDEX, RICH, x -> x.isLinked(5, 5)));
        test("14: false for equal arguments", () -> {
            answers(false, FULL, x -> x.isLinked(0, 0));
            answers(false, FULL, x -> x.isLinked(11, 11));
        });
        test("14: a link has no direction", () -> {
            answers(true, RICH, x -> x.isLinked(0, 1));
            answers(true, RICH, x -> x.isLinked(1, 0));
        });
        test("14: neighbours of a neighbour are not linked", () -> answers(false, RICH, x -> x.isLinked(0, 2)));
        listenerArgument("15: the listener", RumourHives::neighbourCount);
        test("15: no listeners at all", () -> refused(INDEX, NEW, x -> x.neighbourCount(0)));
        test("15: the least, 0", () -> answers(0, RICH, x -> x.neighbourCount(4)));
        test("15: the greatest, 11", () -> {
            answers(11, FULL, x -> x.neighbourCount(0));
            answers(11, FULL, x -> x.neighbourCount(11));
        });
        test("16: the least, 0", () -> answers(0, TWELVE, RumourHives::linkCount));
        test("16: the greatest, 66", () -> answers(66, FULL, RumourHives::linkCount));
        hiveArgument("17: the hive", INDEX, RumourHives::hiveSize);
        test("17: an empty hive", () -> answers(0, RICH, x -> x.hiveSize(2)));
        test("17: all in the least hive", () -> answers(12, TWELVE.then(allTo(0)), x -> x.hiveSize(0)));
        test("17: all in the greatest hive", () -> answers(12, TWELVE.then(allTo(3)), x -> x.hiveSize(3)));
        test("17: and none in another one", () -> answers(0, TWELVE.then(allTo(3)), x -> x.hiveSize(0)));
    }

    private static Steps allTo(int hive) {
        return x -> {
            for (int listener = 0; listener < 12; listener++) {
                if (x.hive(listener) != hive) {
                    x.moveListener(listener, hive);
                }
            }
        };
    }

    private static void components(String promise, Ask count) {
        test(promise + "0 without listeners", () -> answers(0, NEW, count));
        test(promise + "one listener", () -> answers(1, ears(0), count));
        test(promise + "the greatest, 12 without links", () -> answers(12, TWELVE, count));
        test(promise + "1 if all are linked", () -> answers(1, FULL, count));
        test(promise + "a chain of all", () -> {
            Steps chain = chain(0, 0, 0, 0, 0, 0, 0, 0, 0, 0, 0, 0);
            answers(1, chain, count);
            answers(2, chain.then(x -> x.unlink(0, 1)), count);
            answers(2, chain.then(x -> x.unlink(11, 10)), count);
        });
        test(promise + "a chain that goes to and fro", () -> answers(1, TWELVE.then(x -> {
            int[] order = {5, 6, 4, 7, 3, 8, 2, 9, 1, 10, 0, 11};
            for (int i = 1; i < 12; i++) {
                x.link(order[i - 1], order[i]);
            }
        }), count));
        test(promise + "pairs that are joined at last", () -> {
            Steps pairs = TWELVE.then(x -> {
                for (int i = 0; i < 6; i++) {
                    x.link(i, 11 - i);
                }
            });
            answers(6, pairs, count);
            answers(1, pairs.then(x -> {
                for (int i = 0; i < 5; i++) {
                    x.link(i, i + 1);
                }
            }), count);
        });
        test(promise + "a ring is one component, cut once or not", () -> {
            Steps ring = chain(0, 0, 0, 0).then(x -> x.link(3, 0));
            answers(1, ring, count);
            answers(1, ring.then(x -> x.unlink(1, 2)), count);
            answers(2, ring.then(x -> x.unlink(1, 2)).then(x -> x.unlink(0, 3)), count);
        });
        test(promise + "all nets of four listeners, one after the other on one object", () -> {
            RumourHives x = after(ears(0, 0, 0, 0));
            boolean[][] linked = new boolean[4][4];
            same("no links", count.of(x), 4);
            for (int step = 1; step < 64; step++) {
                int[] pair = PAIRS[Integer.numberOfTrailingZeros(step)];
                toggle(x, linked, pair[0], pair[1]);
                same("net " + step, count.of(x), componentsOf(linked));
            }
        });
        test(promise + "counting changes nothing", () -> {
            changesNothing(RICH, count);
            changesNothing(FULL, count);
        });
    }

    private static void toggle(RumourHives x, boolean[][] linked, int first, int second) {
        if (linked[first][second]) {
            x.unlink(first, second);
        } else {
            x.link(first, second);
        }
        linked[first][second] = !linked[first][second];
    }

    private static int componentsOf(boolean[][] linked) {
        int[] labels = {0, 1, 2, 3};
        for (int time = 0; time < 4; time++) {
            for (int[] pair : PAIRS) {
                if (linked[pair[0]][pair[1]]) {
                    labels[pair[0]] = Math.min(labels[pair[0]], labels[pair[1]]);
                    labels[pair[1]] = labels[pair[0]];
                }
            }
        }
        return (int) Arrays.stream(labels).distinct().count();
    }

    public static void main(String[] args) {
        promise1();
        promise2();
        promise3();
        promise4();
        promise5();
        promises11To13();
        promises14To17();
        components("18: ", RumourHives::componentCount);
        components("19: ", RumourHives::componentCountByUnion);
        finish();
    }
}
