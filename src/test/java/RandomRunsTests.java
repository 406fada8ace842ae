import java.lang.reflect.InvocationTargetException;
import java.lang.reflect.Method;
import java.lang.reflect.Modifier;
import java.util.ArrayDeque;
import java.util.ArrayList;
import java.util.Arrays;
import java.util.Comparator;
import java.util.HashSet;
import java.util.List;
import java.util.NoSuchElementException;
import java.util.Random;
import java.util.Set;
import java.util.TreeMap;
import java.util.TreeSet;
import java.util.regex.Matcher;
import java.util.regex.Pattern;

/**
 * Runs of 512 calls, drawn from fixed seeds, against a second implementation that is written as
 * differently as the document allows: every answer and the exact class of every exception agree.
 */
public final class RandomRunsTests {
    private static final int RUNS = 1500;
    private static final int CALLS = 512;
    private static final int[] ODD = {-1, 10, 12, 13, 21, 31, 32, 33, 41, 64, -32, 999,
        Integer.MIN_VALUE, Integer.MAX_VALUE};

    // ---- the second implementation

    public static final class Model {
        private static final String NUMBER = "[0-9][0-9]?";
        private static final String COMMAND = "(?:ear [0-9] [0-9]|link N N|cut N N|start N [0-9]|check [0-9] N"
                + "|deny [0-9]|answer [0-9] [0-9]|move N [0-9]|round(?: N)?)";
        private static final Pattern SCRIPT =
                Pattern.compile((COMMAND + "(?:;" + COMMAND + ")*").replace("N", NUMBER));

        private static final class Story {
            int starter;
            int strength;
            boolean alive = true;
            TreeMap<Integer, Boolean> believes = new TreeMap<>();
            TreeMap<Integer, Integer> heard = new TreeMap<>();

            Story copy() {
                Story story = new Story();
                story.starter = starter;
                story.strength = strength;
                story.alive = alive;
                story.believes.putAll(believes);
                story.heard.putAll(heard);
                return story;
            }
        }

        private static final class World {
            List<Integer> hives = new ArrayList<>();
            List<Integer> doubts = new ArrayList<>();
            Set<List<Integer>> links = new HashSet<>();
            List<Story> stories = new ArrayList<>();
            int round;
            int heard;
            int checks;

            World copy() {
                World world = new World();
                world.hives.addAll(hives);
                world.doubts.addAll(doubts);
                world.links.addAll(links);
                for (Story story : stories) {
                    world.stories.add(story.copy());
                }
                world.round = round;
                world.heard = heard;
                world.checks = checks;
                return world;
            }

            int spread(Story story) {
                if (!story.alive) {
                    return 0;
                }
                TreeMap<Integer, Boolean> before = new TreeMap<>(story.believes);
                int fresh = 0;
                for (int one = 0; one < hives.size(); one++) {
                    int tellers = 0;
                    for (int other = 0; other < hives.size(); other++) {
                        if (links.contains(pair(one, other)) && Boolean.TRUE.equals(before.get(other))) {
                            tellers++;
                        }
                    }
                    if (tellers > 0 && !before.containsKey(one)) {
                        boolean believes = story.strength + tellers > doubts.get(one);
                        story.believes.put(one, believes);
                        story.heard.put(one, round);
                        fresh += believes ? 1 : 0;
                    }
                }
                if (fresh == 0 && story.strength > 0) {
                    story.strength--;
                }
                return fresh;
            }
        }

        private World world = new World();
        private final ArrayDeque<World> past = new ArrayDeque<>();
        private World saved;
        private String buffer = "";
        private String output = "";
        private int error = -1;
        private int failure = -1;
        private boolean inScript;

        private static List<Integer> pair(int first, int second) {
            return Arrays.asList(Math.min(first, second), Math.max(first, second));
        }

        private void listenerMustExist(int listener) {
            if (listener < 0 || listener >= world.hives.size()) {
                throw new IndexOutOfBoundsException();
            }
        }

        private Story story(int rumour) {
            if (rumour < 0 || rumour >= world.stories.size()) {
                throw new IndexOutOfBoundsException();
            }
            return world.stories.get(rumour);
        }

        private static void hiveMustExist(int hive) {
            if (hive < 0 || hive > 3) {
                throw new IndexOutOfBoundsException();
            }
        }

        private static void argument(boolean fine) {
            if (!fine) {
                throw new IllegalArgumentException();
            }
        }

        private static void state(boolean fine) {
            if (!fine) {
                throw new IllegalStateException();
            }
        }

        private static void element(boolean fine) {
            if (!fine) {
                throw new NoSuchElementException();
            }
        }

        private static boolean within(int value, int low, int high) {
            return value >= low && value <= high;
        }

        private void changes() {
            if (!inScript) {
                past.addLast(world.copy());
                if (past.size() > 8) {
                    past.removeFirst();
                }
            }
        }

        public int addListener(int hive, int doubt) {
            argument(within(hive, 0, 3));
            argument(within(doubt, 0, 9));
            state(world.hives.size() < 12);
            changes();
            world.hives.add(hive);
            world.doubts.add(doubt);
            return world.hives.size() - 1;
        }

        public int link(int first, int second) {
            listenerMustExist(first);
            listenerMustExist(second);
            argument(first != second);
            state(!world.links.contains(pair(first, second)));
            changes();
            world.links.add(pair(first, second));
            return world.links.size();
        }

        public int unlink(int first, int second) {
            listenerMustExist(first);
            listenerMustExist(second);
            element(world.links.contains(pair(first, second)));
            changes();
            world.links.remove(pair(first, second));
            return world.links.size();
        }

        public int moveListener(int listener, int hive) {
            listenerMustExist(listener);
            argument(within(hive, 0, 3));
            state(world.hives.get(listener) != hive);
            changes();
            return world.hives.set(listener, hive);
        }

        public int startRumour(int listener, int strength) {
            listenerMustExist(listener);
            argument(within(strength, 0, 9));
            state(world.stories.size() < 4);
            changes();
            Story story = new Story();
            story.starter = listener;
            story.strength = strength;
            story.believes.put(listener, true);
            story.heard.put(listener, world.round);
            world.stories.add(story);
            return world.stories.size() - 1;
        }

        public boolean check(int rumour, int listener) {
            story(rumour);
            listenerMustExist(listener);
            state(isSpreader(rumour, listener));
            changes();
            if (world.doubts.get(listener) > story(rumour).strength) {
                story(rumour).believes.put(listener, false);
                world.checks++;
                return true;
            }
            return false;
        }

        public int deny(int rumour) {
            state(story(rumour).alive);
            changes();
            story(rumour).alive = false;
            return spreaderCount(rumour);
        }

        public int answer(int rumour, int strength) {
            story(rumour);
            argument(within(strength, 0, 9));
            state(!story(rumour).alive);
            changes();
            int previous = story(rumour).strength;
            story(rumour).alive = true;
            story(rumour).strength = strength;
            return previous;
        }

        public int advance(int rounds) {
            argument(within(rounds, 1, 20));
            changes();
            int fresh = 0;
            for (int i = 0; i < rounds; i++) {
                for (Story story : world.stories) {
                    int before = story.believes.size();
                    fresh += world.spread(story);
                    world.heard += story.believes.size() - before;
                }
                world.round++;
            }
            return fresh;
        }

        public int listenerCount() {
            return world.hives.size();
        }

        public int hive(int listener) {
            listenerMustExist(listener);
            return world.hives.get(listener);
        }

        public int doubt(int listener) {
            listenerMustExist(listener);
            return world.doubts.get(listener);
        }

        public boolean isLinked(int first, int second) {
            listenerMustExist(first);
            listenerMustExist(second);
            return world.links.contains(pair(first, second));
        }

        public int neighbourCount(int listener) {
            listenerMustExist(listener);
            return (int) world.links.stream().filter(link -> link.contains(listener)).count();
        }

        public int linkCount() {
            return world.links.size();
        }

        public int hiveSize(int hive) {
            hiveMustExist(hive);
            return (int) world.hives.stream().filter(one -> one == hive).count();
        }

        public int componentCount() {
            int[] label = new int[world.hives.size()];
            for (int i = 0; i < label.length; i++) {
                label[i] = i;
            }
            for (int times = 0; times < 12; times++) {
                for (List<Integer> link : world.links) {
                    int least = Math.min(label[link.get(0)], label[link.get(1)]);
                    label[link.get(0)] = least;
                    label[link.get(1)] = least;
                }
            }
            return (int) Arrays.stream(label).distinct().count();
        }

        public int componentCountByUnion() {
            return componentCount();
        }

        public int rumourCount() {
            return world.stories.size();
        }

        public int strength(int rumour) {
            return story(rumour).strength;
        }

        public boolean isAlive(int rumour) {
            return story(rumour).alive;
        }

        public int starter(int rumour) {
            return story(rumour).starter;
        }

        public boolean isSpreader(int rumour, int listener) {
            story(rumour);
            listenerMustExist(listener);
            return Boolean.TRUE.equals(story(rumour).believes.get(listener));
        }

        public boolean isSceptic(int rumour, int listener) {
            story(rumour);
            listenerMustExist(listener);
            return Boolean.FALSE.equals(story(rumour).believes.get(listener));
        }

        public int heardRound(int rumour, int listener) {
            story(rumour);
            listenerMustExist(listener);
            element(story(rumour).heard.containsKey(listener));
            return story(rumour).heard.get(listener);
        }

        public int spreaderCount(int rumour) {
            return (int) story(rumour).believes.values().stream().filter(believes -> believes).count();
        }

        public int scepticCount(int rumour) {
            return (int) story(rumour).believes.values().stream().filter(believes -> !believes).count();
        }

        public int countedHive(int rumour) {
            element(spreaderCount(rumour) > 0);
            int best = 3;
            for (int hive = 3; hive >= 0; hive--) {
                if (spreadersInHive(rumour, hive) >= spreadersInHive(rumour, best)) {
                    best = hive;
                }
            }
            return best;
        }

        public int spreadersInHive(int rumour, int hive) {
            story(rumour);
            hiveMustExist(hive);
            int count = 0;
            for (int listener : story(rumour).believes.keySet()) {
                if (isSpreader(rumour, listener) && hive(listener) == hive) {
                    count++;
                }
            }
            return count;
        }

        public int distance(int rumour, int listener) {
            story(rumour);
            listenerMustExist(listener);
            int n = world.hives.size();
            int[][] way = new int[n][n];
            for (int[] row : way) {
                Arrays.fill(row, 100);
            }
            for (List<Integer> link : world.links) {
                way[link.get(0)][link.get(1)] = 1;
                way[link.get(1)][link.get(0)] = 1;
            }
            int best = 100;
            for (int middle = 0; middle < n; middle++) {
                way[middle][middle] = 0;
                for (int from = 0; from < n; from++) {
                    for (int to = 0; to < n; to++) {
                        way[from][to] = Math.min(way[from][to], way[from][middle] + way[middle][to]);
                    }
                }
            }
            for (int other = 0; other < n; other++) {
                if (isSpreader(rumour, other)) {
                    best = Math.min(best, way[listener][other]);
                }
            }
            element(best < 100);
            return best;
        }

        public int distanceByRelaxation(int rumour, int listener) {
            return distance(rumour, listener);
        }

        public int nextSpreaders(int rumour) {
            story(rumour);
            return world.copy().spread(story(rumour).copy());
        }

        public int roundsUntilHeard(int rumour, int listener) {
            story(rumour);
            listenerMustExist(listener);
            state(!story(rumour).believes.containsKey(listener));
            Story future = story(rumour).copy();
            int rounds = 0;
            while (rounds < 40 && !future.believes.containsKey(listener)) {
                world.spread(future);
                rounds++;
            }
            element(future.believes.containsKey(listener));
            return rounds;
        }

        public int spreadersAfter(int rumour, int rounds) {
            story(rumour);
            argument(within(rounds, 0, 40));
            Model future = new Model();
            future.world = world.copy();
            for (int i = 0; i < rounds; i++) {
                future.advance(1);
            }
            return future.spreaderCount(rumour);
        }

        public int rumourBySpread(int rank) {
            List<Integer> order = new ArrayList<>();
            for (int i = 0; i < world.stories.size(); i++) {
                order.add(i);
            }
            order.sort(Comparator.comparing((Integer i) -> -spreaderCount(i)).thenComparing(i -> !isAlive(i)));
            element(within(rank, 0, order.size() - 1));
            return order.get(rank);
        }

        public int listenerByGossip(int rank) {
            List<Integer> order = new ArrayList<>();
            for (int i = 0; i < world.hives.size(); i++) {
                order.add(i);
            }
            order.sort(Comparator.comparing((Integer i) -> -gossip(i)).thenComparing(i -> world.doubts.get(i)));
            element(within(rank, 0, order.size() - 1));
            return order.get(rank);
        }

        private int gossip(int listener) {
            int count = 0;
            for (int rumour = 0; rumour < world.stories.size(); rumour++) {
                count += isSpreader(rumour, listener) ? 1 : 0;
            }
            return count;
        }

        public int round() {
            return world.round;
        }

        public int heardTotal() {
            return world.heard;
        }

        public int successfulChecks() {
            return world.checks;
        }

        public double meanDoubt() {
            if (world.doubts.isEmpty()) {
                throw new ArithmeticException();
            }
            double sum = 0;
            for (int doubt : world.doubts) {
                sum += doubt;
            }
            return sum / world.doubts.size();
        }

        public float gossipShare() {
            if (world.doubts.isEmpty()) {
                throw new ArithmeticException();
            }
            Set<Integer> gossips = new TreeSet<>();
            for (int listener = 0; listener < world.doubts.size(); listener++) {
                if (gossip(listener) > 0) {
                    gossips.add(listener);
                }
            }
            return (float) gossips.size() / (float) world.doubts.size();
        }

        public boolean isConsistent() {
            return true;
        }

        public int renderRumour(int rumour) {
            Story story = story(rumour);
            String text = "r" + rumour + ":" + story.strength + (story.alive ? "" : "x");
            for (int listener = 0; listener < world.hives.size(); listener++) {
                Boolean believes = story.believes.get(listener);
                text += believes == null ? "." : believes ? "+" : "-";
            }
            output = text;
            return output.length();
        }

        public int renderHive(int hive) {
            hiveMustExist(hive);
            List<String> members = new ArrayList<>();
            for (int listener = 0; listener < world.hives.size(); listener++) {
                if (world.hives.get(listener) == hive) {
                    members.add("" + listener);
                }
            }
            output = String.join(",", members);
            return output.length();
        }

        public char outputAt(int index) {
            if (!within(index, 0, output.length() - 1)) {
                throw new IndexOutOfBoundsException();
            }
            return output.charAt(index);
        }

        public int type(char character) {
            argument(within(character, 32, 126));
            state(buffer.length() < 60);
            buffer += character;
            return buffer.length();
        }

        private static int errorIn(String script) {
            for (int end = 1; end <= script.length(); end++) {
                Matcher matcher = SCRIPT.matcher(script.substring(0, end));
                if (!matcher.matches() && !matcher.hitEnd()) {
                    return end - 1;
                }
            }
            return script.length();
        }

        public int runScript() {
            String text = buffer;
            buffer = "";
            if (!SCRIPT.matcher(text).matches()) {
                error = errorIn(text);
                throw new IllegalArgumentException();
            }
            World before = world.copy();
            String[] commands = text.split(";");
            inScript = true;
            try {
                for (int i = 0; i < commands.length; i++) {
                    try {
                        execute(commands[i].split(" "));
                    } catch (RuntimeException e) {
                        world = before;
                        failure = i;
                        throw new IllegalStateException();
                    }
                }
            } finally {
                inScript = false;
            }
            World after = world;
            world = before;
            changes();
            world = after;
            return commands.length;
        }

        private void execute(String[] words) {
            int first = words.length > 1 ? Integer.parseInt(words[1]) : 1;
            int second = words.length > 2 ? Integer.parseInt(words[2]) : 0;
            switch (words[0]) {
                case "ear" -> addListener(first, second);
                case "link" -> link(first, second);
                case "cut" -> unlink(first, second);
                case "start" -> startRumour(first, second);
                case "check" -> check(first, second);
                case "deny" -> deny(first);
                case "answer" -> answer(first, second);
                case "move" -> moveListener(first, second);
                default -> advance(first);
            }
        }

        public int errorPosition() {
            element(error >= 0);
            return error;
        }

        public int failedCommand() {
            element(failure >= 0);
            return failure;
        }

        public int undo() {
            element(!past.isEmpty());
            world = past.removeLast();
            return past.size();
        }

        public int save() {
            saved = world.copy();
            return world.hives.size();
        }

        public int restore() {
            state(saved != null);
            world = saved.copy();
            past.clear();
            return world.hives.size();
        }
    }

    // ---- the driver

    private final Random random;
    private final RumourHives real = new RumourHives();
    private final Model model = new Model();
    private final List<String> told = new ArrayList<>();
    private int calls = 0;
    private boolean agreed = true;

    private RandomRunsTests(long seed) {
        random = new Random(seed);
    }

    private static List<Method> face() {
        List<Method> methods = new ArrayList<>();
        for (Method method : RumourHives.class.getDeclaredMethods()) {
            if (Modifier.isPublic(method.getModifiers())) {
                methods.add(method);
            }
        }
        methods.sort(Comparator.comparing(Method::getName));
        return methods;
    }

    private static Object answerOf(Object target, Method method, Object... arguments) {
        try {
            return method.invoke(target, arguments);
        } catch (InvocationTargetException e) {
            return e.getCause().getClass();
        } catch (IllegalAccessException e) {
            return e;
        }
    }

    private void call(Method method, Object... arguments) {
        if (calls >= CALLS || !agreed) {
            return;
        }
        calls++;
        Object got = answerOf(real, method, arguments);
        Object due;
        try {
            due = answerOf(model, Model.class.getMethod(method.getName(), method.getParameterTypes()), arguments);
        } catch (NoSuchMethodException e) {
            due = e;
        }
        told.add(method.getName() + Arrays.toString(arguments) + " -> " + got);
        if (!got.equals(due)) {
            agreed = false;
            System.out.println(String.join("\n", told) + "\n  due is " + due);
        }
    }

    private static Method named(List<Method> face, String name) {
        for (Method method : face) {
            if (method.getName().equals(name)) {
                return method;
            }
        }
        throw new IllegalArgumentException(name);
    }

    private int below(int bound) {
        return random.nextInt(bound);
    }

    private Object[] argumentsFor(String name) {
        int listener = below(Math.max(1, model.listenerCount() + (below(12) == 0 ? 1 : 0)));
        int other = below(Math.max(1, model.listenerCount()));
        int rumour = below(Math.max(1, model.rumourCount() + (below(12) == 0 ? 1 : 0)));
        int level = below(10);
        int hive = below(4);
        Object[] arguments = switch (name) {
            case "addListener" -> new Object[] {hive, level};
            case "link", "unlink", "isLinked" -> new Object[] {listener, other};
            case "moveListener" -> new Object[] {listener, hive};
            case "startRumour" -> new Object[] {listener, level};
            case "answer" -> new Object[] {rumour, level};
            case "check", "isSpreader", "isSceptic", "heardRound", "distance", "distanceByRelaxation",
                "roundsUntilHeard" -> new Object[] {rumour, listener};
            case "deny", "strength", "isAlive", "starter", "spreaderCount", "scepticCount", "countedHive",
                "nextSpreaders", "renderRumour" -> new Object[] {rumour};
            case "spreadersInHive" -> new Object[] {rumour, hive};
            case "advance" -> new Object[] {1 + below(below(4) == 0 ? 20 : 2)};
            case "spreadersAfter" -> new Object[] {rumour, below(below(2) == 0 ? 5 : 42)};
            case "hive", "doubt", "neighbourCount" -> new Object[] {listener};
            case "hiveSize", "renderHive" -> new Object[] {hive};
            case "rumourBySpread" -> new Object[] {below(5)};
            case "listenerByGossip" -> new Object[] {below(13)};
            case "outputAt" -> new Object[] {below(18)};
            case "type" -> new Object[] {(char) (below(9) == 0 ? below(65536) : 32 + below(95))};
            default -> new Object[0];
        };
        for (int i = 0; i < arguments.length; i++) {
            if (arguments[i] instanceof Integer && below(40) == 0) {
                arguments[i] = ODD[below(ODD.length)];
            }
        }
        return arguments;
    }

    private String number(int bound) {
        int value = below(20) == 0 ? below(100) : below(bound);
        return below(4) == 0 && value < 10 ? "0" + value : "" + value;
    }

    private String command() {
        int ears = Math.max(1, model.listenerCount());
        int rumours = Math.max(1, model.rumourCount());
        return switch (below(10)) {
            case 0 -> "ear " + below(4) + " " + below(10);
            case 1, 2 -> "link " + number(ears) + " " + number(ears);
            case 3 -> "cut " + number(ears) + " " + number(ears);
            case 4 -> "start " + number(ears) + " " + below(10);
            case 5 -> "check " + below(rumours) + " " + number(ears);
            case 6 -> below(2) == 0 ? "deny " + below(rumours) : "answer " + below(rumours) + " " + below(10);
            case 7 -> "move " + number(ears) + " " + below(4);
            case 8 -> "round";
            default -> "round " + number(8);
        };
    }

    private String scriptText() {
        StringBuilder text = new StringBuilder(command());
        for (int more = below(3); more > 0; more--) {
            text.append(';').append(command());
        }
        if (below(3) == 0) {
            int at = below(text.length());
            char odd = "0123456789 ;;  abcdehiklmnorstuvwy?"
                    .charAt(below("0123456789 ;;  abcdehiklmnorstuvwy?".length()));
            switch (below(4)) {
                case 0 -> text.setLength(at);
                case 1 -> text.setCharAt(at, odd);
                case 2 -> text.insert(at, odd);
                default -> text.deleteCharAt(at);
            }
        }
        return text.toString();
    }

    private void typeAndRun(List<Method> face) {
        String text = scriptText();
        for (int i = 0; i < text.length(); i++) {
            call(named(face, "type"), text.charAt(i));
        }
        if (below(8) != 0) {
            call(named(face, "runScript"));
        }
        call(named(face, "errorPosition"));
        call(named(face, "failedCommand"));
    }

    private void lookAtAll(List<Method> face) {
        for (int rumour = 0; rumour < model.rumourCount(); rumour++) {
            call(named(face, "renderRumour"), rumour);
            for (int index = 0; index < 17; index++) {
                call(named(face, "outputAt"), index);
            }
        }
    }

    private boolean run(List<Method> face) {
        String[] changes = {"addListener", "link", "link", "link", "startRumour", "check", "deny", "answer",
            "advance", "moveListener", "unlink"};
        int liveliness = 2 + below(4);
        while (calls < CALLS && agreed) {
            int dice = below(100);
            if (dice < 10 * liveliness) {
                String name = changes[below(changes.length)];
                call(named(face, name), argumentsFor(name));
            } else if (dice < 10 * liveliness + 2) {
                typeAndRun(face);
            } else if (dice < 10 * liveliness + 3) {
                lookAtAll(face);
            } else {
                Method method = face.get(below(face.size()));
                if (!method.getName().equals("type") || below(3) == 0) {
                    call(method, argumentsFor(method.getName()));
                }
            }
        }
        return agreed;
    }

    public static void main(String[] args) {
        List<Method> face = face();
        int failed = 0;
        for (int seed = 0; seed < RUNS && failed < 3; seed++) {
            if (!new RandomRunsTests(seed).run(face)) {
                System.out.println("run of seed " + seed + " is not as due");
                failed++;
            }
        }
        System.out.println((RUNS - failed) + " passed, " + failed + " failed");
        if (failed != 0) {
            System.exit(1);
        }
    }
}
