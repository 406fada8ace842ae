import java.util.NoSuchElementException;

/**
 * A simulator of rumours that spread among listeners.
 *
 * A set of listeners is held as the bits of an int throughout ("group"), so that a state is copied
 * for undo and for the snapshot without making any new object.
 */
public final class RumourHives {
    private static final int MAX_LISTENERS = 12;
    private static final int MAX_RUMOURS = 4;
    private static final int HIVES = 4;
    private static final int MAX_LEVEL = 9;
    private static final int MAX_ROUNDS = 20;
    private static final int MAX_FORESIGHT = 40;
    private static final int MAX_UNDO = 8;
    private static final int MAX_SCRIPT = 60;
    private static final int NONE = -1;

    // Why a call is refused. Scripts need the reason without an exception, the face throws it.
    private static final int FINE = 0;
    private static final int NO_INDEX = 1;
    private static final int BAD_ARGUMENT = 2;
    private static final int BAD_STATE = 3;
    private static final int NO_ELEMENT = 4;

    // The kinds of change, which are the commands of a script as well.
    private static final int EAR = 0;
    private static final int LINK = 1;
    private static final int CUT = 2;
    private static final int START = 3;
    private static final int CHECK = 4;
    private static final int DENY = 5;
    private static final int ANSWER = 6;
    private static final int MOVE = 7;
    private static final int ONE_ROUND = 8;
    private static final int ROUNDS = 9;
    private static final int KINDS = 10;

    private final Scene now = new Scene();
    private final Scene beforeScript = new Scene();
    private final Scene snapshot = new Scene();
    private final History history = new History();
    private final Rumour forecast = new Rumour();
    private final Script script = new Script();
    private final StringBuilder output = new StringBuilder();
    private boolean hasSnapshot = false;
    private int latestError = NONE;
    private int latestFailure = NONE;

    public RumourHives() {
    }

    // ---- listeners

    public int addListener(int hive, int doubt) throws IllegalArgumentException, IllegalStateException {
        return change(EAR, hive, doubt);
    }

    public int link(int first, int second)
            throws IndexOutOfBoundsException, IllegalArgumentException, IllegalStateException {
        return change(LINK, first, second);
    }

    public int unlink(int first, int second) throws IndexOutOfBoundsException, NoSuchElementException {
        return change(CUT, first, second);
    }

    public int moveListener(int listener, int hive)
            throws IndexOutOfBoundsException, IllegalArgumentException, IllegalStateException {
        return change(MOVE, listener, hive);
    }

    // ---- rumours

    public int startRumour(int listener, int strength)
            throws IndexOutOfBoundsException, IllegalArgumentException, IllegalStateException {
        return change(START, listener, strength);
    }

    public boolean check(int rumour, int listener) throws IndexOutOfBoundsException, IllegalStateException {
        return change(CHECK, rumour, listener) == 1;
    }

    public int deny(int rumour) throws IndexOutOfBoundsException, IllegalStateException {
        return change(DENY, rumour, 0);
    }

    public int answer(int rumour, int strength)
            throws IndexOutOfBoundsException, IllegalArgumentException, IllegalStateException {
        return change(ANSWER, rumour, strength);
    }

    public int advance(int rounds) throws IllegalArgumentException {
        return change(ROUNDS, rounds, 0);
    }

    // ---- listeners and links

    public int listenerCount() {
        return now.net.size;
    }

    public int hive(int listener) throws IndexOutOfBoundsException {
        needListener(listener);
        return now.hiveOf[listener];
    }

    public int doubt(int listener) throws IndexOutOfBoundsException {
        needListener(listener);
        return now.doubtOf[listener];
    }

    public boolean isLinked(int first, int second) throws IndexOutOfBoundsException {
        needListener(first);
        needListener(second);
        return now.net.joined(first, second);
    }

    public int neighbourCount(int listener) throws IndexOutOfBoundsException {
        needListener(listener);
        return Integer.bitCount(now.net.neighbours[listener]);
    }

    public int linkCount() {
        return now.net.links;
    }

    public int hiveSize(int hive) throws IndexOutOfBoundsException {
        needHive(hive);
        return Integer.bitCount(now.membersOf(hive));
    }

    public int componentCount() {
        return now.net.piecesBySearch();
    }

    public int componentCountByUnion() {
        return now.net.piecesByUnion();
    }

    // ---- rumours and spreading

    public int rumourCount() {
        return now.started;
    }

    public int strength(int rumour) throws IndexOutOfBoundsException {
        needRumour(rumour);
        return now.rumours[rumour].force;
    }

    public boolean isAlive(int rumour) throws IndexOutOfBoundsException {
        needRumour(rumour);
        return now.rumours[rumour].alive;
    }

    public int starter(int rumour) throws IndexOutOfBoundsException {
        needRumour(rumour);
        return now.rumours[rumour].source;
    }

    public boolean isSpreader(int rumour, int listener) throws IndexOutOfBoundsException {
        needRumour(rumour);
        needListener(listener);
        return contains(now.rumours[rumour].spreaders, listener);
    }

    public boolean isSceptic(int rumour, int listener) throws IndexOutOfBoundsException {
        needRumour(rumour);
        needListener(listener);
        return contains(now.rumours[rumour].sceptics, listener);
    }

    public int heardRound(int rumour, int listener) throws IndexOutOfBoundsException, NoSuchElementException {
        needRumour(rumour);
        needListener(listener);
        if (!contains(now.rumours[rumour].aware(), listener)) {
            throw new NoSuchElementException("the listener is unaware of the rumour");
        }
        return now.rumours[rumour].heardIn[listener];
    }

    public int spreaderCount(int rumour) throws IndexOutOfBoundsException {
        needRumour(rumour);
        return Integer.bitCount(now.rumours[rumour].spreaders);
    }

    public int scepticCount(int rumour) throws IndexOutOfBoundsException {
        needRumour(rumour);
        return Integer.bitCount(now.rumours[rumour].sceptics);
    }

    public int countedHive(int rumour) throws IndexOutOfBoundsException, NoSuchElementException {
        needRumour(rumour);
        if (now.rumours[rumour].spreaders == 0) {
            throw new NoSuchElementException("the rumour has no spreaders");
        }
        return now.hiveWithMost(now.rumours[rumour].spreaders);
    }

    public int spreadersInHive(int rumour, int hive) throws IndexOutOfBoundsException {
        needRumour(rumour);
        needHive(hive);
        return Integer.bitCount(now.rumours[rumour].spreaders & now.membersOf(hive));
    }

    public int distance(int rumour, int listener) throws IndexOutOfBoundsException, NoSuchElementException {
        needRumour(rumour);
        needListener(listener);
        return found(now.net.stepsBySearch(listener, now.rumours[rumour].spreaders));
    }

    public int distanceByRelaxation(int rumour, int listener)
            throws IndexOutOfBoundsException, NoSuchElementException {
        needRumour(rumour);
        needListener(listener);
        return found(now.net.stepsByRelaxing(listener, now.rumours[rumour].spreaders));
    }

    public int nextSpreaders(int rumour) throws IndexOutOfBoundsException {
        needRumour(rumour);
        return now.believersToCome(now.rumours[rumour]);
    }

    public int roundsUntilHeard(int rumour, int listener)
            throws IndexOutOfBoundsException, IllegalStateException, NoSuchElementException {
        needRumour(rumour);
        needListener(listener);
        if (contains(now.rumours[rumour].aware(), listener)) {
            throw new IllegalStateException("the listener is not unaware of the rumour");
        }
        return found(foreseenHearing(now.rumours[rumour], listener));
    }

    public int spreadersAfter(int rumour, int rounds) throws IndexOutOfBoundsException, IllegalArgumentException {
        needRumour(rumour);
        if (rounds < 0 || rounds > MAX_FORESIGHT) {
            throw new IllegalArgumentException("the rounds are not between 0 and 40");
        }
        forecast.copyFrom(now.rumours[rumour]);
        for (int passed = 0; passed < rounds; passed++) {
            now.spreadOnce(forecast);
        }
        return Integer.bitCount(forecast.spreaders);
    }

    // ---- ranks, totals, checks

    public int rumourBySpread(int rank) throws NoSuchElementException {
        return found(now.rumourAtRank(rank));
    }

    public int listenerByGossip(int rank) throws NoSuchElementException {
        return found(now.listenerAtRank(rank));
    }

    public int round() {
        return now.passedRounds;
    }

    public int heardTotal() {
        return now.hearings;
    }

    public int successfulChecks() {
        return now.conversions;
    }

    public double meanDoubt() throws ArithmeticException {
        if (now.net.size == 0) {
            throw new ArithmeticException("there are no listeners");
        }
        return (double) now.sumOfDoubts() / (double) now.net.size;
    }

    public float gossipShare() throws ArithmeticException {
        if (now.net.size == 0) {
            throw new ArithmeticException("there are no listeners");
        }
        return (float) Integer.bitCount(now.gossips()) / (float) now.net.size;
    }

    public boolean isConsistent() {
        return now.net.piecesBySearch() == now.net.piecesByUnion()
                && now.distancesAgree()
                && now.standsAreClear()
                && now.hivesAddUp();
    }

    // ---- output and scripts

    public int renderRumour(int rumour) throws IndexOutOfBoundsException {
        needRumour(rumour);
        Rumour shown = now.rumours[rumour];
        output.setLength(0);
        output.append('r').append(rumour).append(':').append(shown.force);
        if (!shown.alive) {
            output.append('x');
        }
        for (int listener = 0; listener < now.net.size; listener++) {
            output.append(shown.signOf(listener));
        }
        return output.length();
    }

    public int renderHive(int hive) throws IndexOutOfBoundsException {
        needHive(hive);
        int members = now.membersOf(hive);
        output.setLength(0);
        for (int listener = 0; listener < now.net.size; listener++) {
            if (contains(members, listener)) {
                if (output.length() > 0) {
                    output.append(',');
                }
                output.append(listener);
            }
        }
        return output.length();
    }

    public char outputAt(int index) throws IndexOutOfBoundsException {
        if (index < 0 || index >= output.length()) {
            throw new IndexOutOfBoundsException("no such index of the output text");
        }
        return output.charAt(index);
    }

    public int type(char character) throws IllegalArgumentException, IllegalStateException {
        if (character < 32 || character > 126) {
            throw new IllegalArgumentException("the character code is not between 32 and 126");
        }
        if (script.length >= MAX_SCRIPT) {
            throw new IllegalStateException("the script buffer is full");
        }
        script.put(character);
        return script.length;
    }

    public int runScript() throws IllegalArgumentException, IllegalStateException {
        int error = script.readAll();
        script.length = 0;
        if (error != NONE) {
            latestError = error;
            throw new IllegalArgumentException("the script does not have the required form");
        }
        int failure = runCommands();
        if (failure != NONE) {
            latestFailure = failure;
            throw new IllegalStateException("a command of the script failed");
        }
        return script.commands;
    }

    public int errorPosition() throws NoSuchElementException {
        return found(latestError);
    }

    public int failedCommand() throws NoSuchElementException {
        return found(latestFailure);
    }

    public int undo() throws NoSuchElementException {
        if (history.kept == 0) {
            throw new NoSuchElementException("there is nothing to undo");
        }
        history.takeBack(now);
        return history.kept;
    }

    public int save() {
        snapshot.copyFrom(now);
        hasSnapshot = true;
        return now.net.size;
    }

    public int restore() throws IllegalStateException {
        if (!hasSnapshot) {
            throw new IllegalStateException("there is no snapshot");
        }
        now.copyFrom(snapshot);
        history.kept = 0;
        return now.net.size;
    }

    // ---- what the calls share

    private void needListener(int listener) {
        if (!now.hasListener(listener)) {
            throw new IndexOutOfBoundsException("no such listener");
        }
    }

    private void needRumour(int rumour) {
        if (!now.hasRumour(rumour)) {
            throw new IndexOutOfBoundsException("no such rumour");
        }
    }

    private static void needHive(int hive) {
        if (!isHive(hive)) {
            throw new IndexOutOfBoundsException("no such hive");
        }
    }

    private static int found(int value) {
        if (value == NONE) {
            throw new NoSuchElementException("there is none");
        }
        return value;
    }

    private static boolean isHive(int number) {
        return number >= 0 && number < HIVES;
    }

    private static boolean isLevel(int number) {
        return number >= 0 && number <= MAX_LEVEL;
    }

    private static boolean contains(int group, int member) {
        return (group & (1 << member)) != 0;
    }

    private int change(int kind, int first, int second) {
        refuse(refusalOf(kind, first, second));
        history.keep(now);
        return perform(kind, first, second);
    }

    private static void refuse(int refusal) {
        if (refusal == NO_INDEX) {
            throw new IndexOutOfBoundsException("no such index");
        }
        if (refusal == BAD_ARGUMENT) {
            throw new IllegalArgumentException("an argument is not allowed");
        }
        if (refusal == BAD_STATE) {
            throw new IllegalStateException("the state does not allow the call");
        }
        if (refusal == NO_ELEMENT) {
            throw new NoSuchElementException("there is none");
        }
    }

    private int refusalOf(int kind, int first, int second) {
        switch (kind) {
            case EAR:
                return now.refusalToAdd(first, second);
            case LINK:
                return now.refusalToJoin(first, second);
            case CUT:
                return now.refusalToCut(first, second);
            case START:
                return now.refusalToStart(first, second);
            case CHECK:
                return now.refusalToConvert(first, second);
            case DENY:
                return now.refusalToSilence(first);
            case ANSWER:
                return now.refusalToRevive(first, second);
            case MOVE:
                return now.refusalToMove(first, second);
            default:
                return first < 1 || first > MAX_ROUNDS ? BAD_ARGUMENT : FINE;
        }
    }

    /** Carries out a change that refusalOf has found fine. */
    private int perform(int kind, int first, int second) {
        switch (kind) {
            case EAR:
                return now.add(first, second);
            case LINK:
                return now.net.join(first, second);
            case CUT:
                return now.net.cut(first, second);
            case START:
                return now.begin(first, second);
            case CHECK:
                return now.convert(first, second);
            case DENY:
                return now.rumours[first].silence();
            case ANSWER:
                return now.rumours[first].revive(second);
            case MOVE:
                return now.move(first, second);
            default:
                return now.passRounds(first);
        }
    }

    /** Returns the index of the command that failed, after which none has taken effect, or NONE. */
    private int runCommands() {
        beforeScript.copyFrom(now);
        for (int command = 0; command < script.commands; command++) {
            int kind = script.kinds[command];
            int first = script.firsts[command];
            int second = script.seconds[command];
            if (refusalOf(kind, first, second) != FINE) {
                now.copyFrom(beforeScript);
                return command;
            }
            perform(kind, first, second);
        }
        history.keep(beforeScript);
        return NONE;
    }

    /** Returns after how many rounds the listener hears the rumour, or NONE. */
    private int foreseenHearing(Rumour rumour, int listener) {
        forecast.copyFrom(rumour);
        for (int rounds = 1; rounds <= MAX_FORESIGHT; rounds++) {
            now.spreadOnce(forecast);
            if (contains(forecast.aware(), listener)) {
                return rounds;
            }
        }
        return NONE;
    }

    /** The listeners' links, and what can be found by walking along them. */
    private static final class Net {
        private static final int FAR = 1000;

        private int size = 0;
        private int links = 0;
        private final int[] neighbours = new int[MAX_LISTENERS];
        private final int[] parents = new int[MAX_LISTENERS];
        private final int[] steps = new int[MAX_LISTENERS];

        void copyFrom(Net other) {
            size = other.size;
            links = other.links;
            System.arraycopy(other.neighbours, 0, neighbours, 0, MAX_LISTENERS);
        }

        boolean joined(int first, int second) {
            return contains(neighbours[first], second);
        }

        int join(int first, int second) {
            neighbours[first] |= 1 << second;
            neighbours[second] |= 1 << first;
            links++;
            return links;
        }

        int cut(int first, int second) {
            neighbours[first] &= ~(1 << second);
            neighbours[second] &= ~(1 << first);
            links--;
            return links;
        }

        private int around(int group) {
            int reached = 0;
            for (int listener = 0; listener < size; listener++) {
                if (contains(group, listener)) {
                    reached |= neighbours[listener];
                }
            }
            return reached;
        }

        int piecesBySearch() {
            int pieces = 0;
            int seen = 0;
            for (int listener = 0; listener < size; listener++) {
                if (!contains(seen, listener)) {
                    pieces++;
                    seen |= pieceOf(listener);
                }
            }
            return pieces;
        }

        private int pieceOf(int listener) {
            int piece = 1 << listener;
            for (int step = 1; step < size; step++) {
                piece |= around(piece);
            }
            return piece;
        }

        int piecesByUnion() {
            for (int listener = 0; listener < size; listener++) {
                parents[listener] = listener;
            }
            int pieces = size;
            for (int first = 0; first < size; first++) {
                for (int second = 0; second < first; second++) {
                    if (joined(first, second) && unite(first, second)) {
                        pieces--;
                    }
                }
            }
            return pieces;
        }

        /** Returns whether the two were in different sets before. */
        private boolean unite(int first, int second) {
            int firstRoot = rootOf(first);
            int secondRoot = rootOf(second);
            parents[firstRoot] = secondRoot;
            return firstRoot != secondRoot;
        }

        private int rootOf(int listener) {
            int root = listener;
            for (int step = 0; step < size && parents[root] != root; step++) {
                root = parents[root];
            }
            return root;
        }

        /** Returns the length of a shortest path into the group, by breadth-first search, or NONE. */
        int stepsBySearch(int from, int group) {
            int edge = 1 << from;
            int seen = edge;
            for (int step = 0; step < size; step++) {
                if ((edge & group) != 0) {
                    return step;
                }
                edge = around(edge) & ~seen;
                seen |= edge;
            }
            return NONE;
        }

        /** Returns the same as stepsBySearch, by relaxing all links from the whole group. */
        int stepsByRelaxing(int from, int group) {
            for (int listener = 0; listener < size; listener++) {
                steps[listener] = contains(group, listener) ? 0 : FAR;
            }
            for (int pass = 1; pass < size; pass++) {
                relaxLinks();
            }
            return steps[from] == FAR ? NONE : steps[from];
        }

        private void relaxLinks() {
            for (int first = 0; first < size; first++) {
                for (int second = 0; second < size; second++) {
                    if (joined(first, second)) {
                        steps[first] = Math.min(steps[first], steps[second] + 1);
                    }
                }
            }
        }
    }

    /** One rumour and what each listener makes of it. */
    private static final class Rumour {
        private int source = 0;
        private int force = 0;
        private boolean alive = false;
        private int spreaders = 0;
        private int sceptics = 0;
        private final int[] heardIn = new int[MAX_LISTENERS];

        void copyFrom(Rumour other) {
            source = other.source;
            force = other.force;
            alive = other.alive;
            spreaders = other.spreaders;
            sceptics = other.sceptics;
            System.arraycopy(other.heardIn, 0, heardIn, 0, MAX_LISTENERS);
        }

        void comeUp(int listener, int newForce, int round) {
            source = listener;
            force = newForce;
            alive = true;
            spreaders = 1 << listener;
            sceptics = 0;
            heardIn[listener] = round;
        }

        int aware() {
            return spreaders | sceptics;
        }

        int silence() {
            alive = false;
            return Integer.bitCount(spreaders);
        }

        int revive(int newForce) {
            int previous = force;
            alive = true;
            force = newForce;
            return previous;
        }

        void weaken() {
            force = Math.max(0, force - 1);
        }

        char signOf(int listener) {
            if (contains(spreaders, listener)) {
                return '+';
            }
            return contains(sceptics, listener) ? '-' : '.';
        }
    }

    /** All that undo and the snapshot cover. */
    private static final class Scene {
        private final Net net = new Net();
        private final int[] hiveOf = new int[MAX_LISTENERS];
        private final int[] doubtOf = new int[MAX_LISTENERS];
        private final Rumour[] rumours = new Rumour[MAX_RUMOURS];
        private int started = 0;
        private int passedRounds = 0;
        private int hearings = 0;
        private int conversions = 0;

        Scene() {
            for (int rumour = 0; rumour < MAX_RUMOURS; rumour++) {
                rumours[rumour] = new Rumour();
            }
        }

        void copyFrom(Scene other) {
            net.copyFrom(other.net);
            System.arraycopy(other.hiveOf, 0, hiveOf, 0, MAX_LISTENERS);
            System.arraycopy(other.doubtOf, 0, doubtOf, 0, MAX_LISTENERS);
            for (int rumour = 0; rumour < MAX_RUMOURS; rumour++) {
                rumours[rumour].copyFrom(other.rumours[rumour]);
            }
            started = other.started;
            passedRounds = other.passedRounds;
            hearings = other.hearings;
            conversions = other.conversions;
        }

        boolean hasListener(int listener) {
            return listener >= 0 && listener < net.size;
        }

        boolean hasRumour(int rumour) {
            return rumour >= 0 && rumour < started;
        }

        int refusalToAdd(int hive, int doubt) {
            if (!isHive(hive) || !isLevel(doubt)) {
                return BAD_ARGUMENT;
            }
            return net.size < MAX_LISTENERS ? FINE : BAD_STATE;
        }

        int add(int hive, int doubt) {
            int listener = net.size;
            hiveOf[listener] = hive;
            doubtOf[listener] = doubt;
            net.size++;
            return listener;
        }

        int refusalToJoin(int first, int second) {
            if (!hasListener(first) || !hasListener(second)) {
                return NO_INDEX;
            }
            if (first == second) {
                return BAD_ARGUMENT;
            }
            return net.joined(first, second) ? BAD_STATE : FINE;
        }

        int refusalToCut(int first, int second) {
            if (!hasListener(first) || !hasListener(second)) {
                return NO_INDEX;
            }
            return net.joined(first, second) ? FINE : NO_ELEMENT;
        }

        int refusalToMove(int listener, int hive) {
            if (!hasListener(listener)) {
                return NO_INDEX;
            }
            if (!isHive(hive)) {
                return BAD_ARGUMENT;
            }
            return hiveOf[listener] == hive ? BAD_STATE : FINE;
        }

        int move(int listener, int hive) {
            int previous = hiveOf[listener];
            hiveOf[listener] = hive;
            return previous;
        }

        int refusalToStart(int listener, int force) {
            if (!hasListener(listener)) {
                return NO_INDEX;
            }
            if (!isLevel(force)) {
                return BAD_ARGUMENT;
            }
            return started < MAX_RUMOURS ? FINE : BAD_STATE;
        }

        int begin(int listener, int force) {
            int rumour = started;
            rumours[rumour].comeUp(listener, force, passedRounds);
            started++;
            return rumour;
        }

        int refusalToConvert(int rumour, int listener) {
            if (!hasRumour(rumour) || !hasListener(listener)) {
                return NO_INDEX;
            }
            return contains(rumours[rumour].spreaders, listener) ? FINE : BAD_STATE;
        }

        /** Returns 1 if the spreader becomes a sceptic, otherwise 0. */
        int convert(int rumour, int listener) {
            Rumour checked = rumours[rumour];
            if (doubtOf[listener] <= checked.force) {
                return 0;
            }
            checked.spreaders &= ~(1 << listener);
            checked.sceptics |= 1 << listener;
            conversions++;
            return 1;
        }

        int refusalToSilence(int rumour) {
            if (!hasRumour(rumour)) {
                return NO_INDEX;
            }
            return rumours[rumour].alive ? FINE : BAD_STATE;
        }

        int refusalToRevive(int rumour, int force) {
            if (!hasRumour(rumour)) {
                return NO_INDEX;
            }
            if (!isLevel(force)) {
                return BAD_ARGUMENT;
            }
            return rumours[rumour].alive ? BAD_STATE : FINE;
        }

        /** Returns how many listeners became spreaders. */
        int passRounds(int rounds) {
            int total = 0;
            for (int passed = 0; passed < rounds; passed++) {
                for (int rumour = 0; rumour < started; rumour++) {
                    int awareBefore = Integer.bitCount(rumours[rumour].aware());
                    total += spreadOnce(rumours[rumour]);
                    hearings += Integer.bitCount(rumours[rumour].aware()) - awareBefore;
                }
                passedRounds++;
            }
            return total;
        }

        /** Lets a rumour, if it is alive, spread once and returns how many listeners became spreaders. */
        int spreadOnce(Rumour rumour) {
            if (!rumour.alive) {
                return 0;
            }
            int believers = 0;
            int doubters = 0;
            for (int listener = 0; listener < net.size; listener++) {
                if (hears(rumour, listener)) {
                    rumour.heardIn[listener] = passedRounds;
                    if (believes(rumour, listener)) {
                        believers |= 1 << listener;
                    } else {
                        doubters |= 1 << listener;
                    }
                }
            }
            rumour.spreaders |= believers;
            rumour.sceptics |= doubters;
            if (believers == 0) {
                rumour.weaken();
            }
            return Integer.bitCount(believers);
        }

        private boolean hears(Rumour rumour, int listener) {
            return !contains(rumour.aware(), listener) && (net.neighbours[listener] & rumour.spreaders) != 0;
        }

        private boolean believes(Rumour rumour, int listener) {
            int tellers = Integer.bitCount(net.neighbours[listener] & rumour.spreaders);
            return rumour.force + tellers > doubtOf[listener];
        }

        int believersToCome(Rumour rumour) {
            int count = 0;
            for (int listener = 0; listener < net.size; listener++) {
                if (rumour.alive && hears(rumour, listener) && believes(rumour, listener)) {
                    count++;
                }
            }
            return count;
        }

        int membersOf(int hive) {
            int members = 0;
            for (int listener = 0; listener < net.size; listener++) {
                if (hiveOf[listener] == hive) {
                    members |= 1 << listener;
                }
            }
            return members;
        }

        int hiveWithMost(int group) {
            int best = 0;
            int most = 0;
            for (int hive = 0; hive < HIVES; hive++) {
                int count = Integer.bitCount(group & membersOf(hive));
                if (count > most) {
                    best = hive;
                    most = count;
                }
            }
            return best;
        }

        /** Returns the rumour with as many rumours before it as the rank says, or NONE. */
        int rumourAtRank(int rank) {
            for (int rumour = 0; rumour < started; rumour++) {
                int ahead = 0;
                for (int other = 0; other < started; other++) {
                    if (other != rumour && spreadsAhead(other, rumour)) {
                        ahead++;
                    }
                }
                if (ahead == rank) {
                    return rumour;
                }
            }
            return NONE;
        }

        private boolean spreadsAhead(int first, int second) {
            int firstCount = Integer.bitCount(rumours[first].spreaders);
            int secondCount = Integer.bitCount(rumours[second].spreaders);
            if (firstCount != secondCount) {
                return firstCount > secondCount;
            }
            if (rumours[first].alive != rumours[second].alive) {
                return rumours[first].alive;
            }
            return first < second;
        }

        /** Returns the listener with as many listeners before it as the rank says, or NONE. */
        int listenerAtRank(int rank) {
            for (int listener = 0; listener < net.size; listener++) {
                int ahead = 0;
                for (int other = 0; other < net.size; other++) {
                    if (other != listener && gossipsAhead(other, listener)) {
                        ahead++;
                    }
                }
                if (ahead == rank) {
                    return listener;
                }
            }
            return NONE;
        }

        private boolean gossipsAhead(int first, int second) {
            int firstCount = spreadBy(first);
            int secondCount = spreadBy(second);
            if (firstCount != secondCount) {
                return firstCount > secondCount;
            }
            if (doubtOf[first] != doubtOf[second]) {
                return doubtOf[first] < doubtOf[second];
            }
            return first < second;
        }

        private int spreadBy(int listener) {
            int count = 0;
            for (int rumour = 0; rumour < started; rumour++) {
                if (contains(rumours[rumour].spreaders, listener)) {
                    count++;
                }
            }
            return count;
        }

        int gossips() {
            int group = 0;
            for (int rumour = 0; rumour < started; rumour++) {
                group |= rumours[rumour].spreaders;
            }
            return group;
        }

        int sumOfDoubts() {
            int sum = 0;
            for (int listener = 0; listener < net.size; listener++) {
                sum += doubtOf[listener];
            }
            return sum;
        }

        boolean distancesAgree() {
            for (int rumour = 0; rumour < started; rumour++) {
                int spreaders = rumours[rumour].spreaders;
                for (int listener = 0; listener < net.size; listener++) {
                    if (net.stepsBySearch(listener, spreaders) != net.stepsByRelaxing(listener, spreaders)) {
                        return false;
                    }
                }
            }
            return true;
        }

        boolean standsAreClear() {
            for (int rumour = 0; rumour < started; rumour++) {
                if ((rumours[rumour].spreaders & rumours[rumour].sceptics) != 0) {
                    return false;
                }
            }
            return true;
        }

        boolean hivesAddUp() {
            int sum = 0;
            for (int hive = 0; hive < HIVES; hive++) {
                sum += Integer.bitCount(membersOf(hive));
            }
            return sum == net.size;
        }
    }

    /** The states before the latest changes, in a ring that drops the oldest one. */
    private static final class History {
        private final Scene[] scenes = new Scene[MAX_UNDO];
        private int kept = 0;
        private int next = 0;

        History() {
            for (int place = 0; place < MAX_UNDO; place++) {
                scenes[place] = new Scene();
            }
        }

        void keep(Scene scene) {
            scenes[next].copyFrom(scene);
            next = (next + 1) % MAX_UNDO;
            kept = Math.min(MAX_UNDO, kept + 1);
        }

        void takeBack(Scene scene) {
            next = (next + MAX_UNDO - 1) % MAX_UNDO;
            kept--;
            scene.copyFrom(scenes[next]);
        }
    }

    /** The script buffer and the commands that are read from it. */
    private static final class Script {
        private static final char DIGIT = '#';
        private static final char NUMBER = '@';

        private final char[] text = new char[MAX_SCRIPT];
        private int length = 0;
        private final int[] kinds = new int[MAX_SCRIPT];
        private final int[] firsts = new int[MAX_SCRIPT];
        private final int[] seconds = new int[MAX_SCRIPT];
        private int commands = 0;

        // How far the latest match went, and what it read on the way.
        private int reached = 0;
        private boolean complete = false;
        private int numbers = 0;
        private int firstNumber = 0;
        private int secondNumber = 0;

        void put(char character) {
            text[length] = character;
            length++;
        }

        /** Reads all commands and returns the error position, or NONE if the script has the form. */
        int readAll() {
            int place = 0;
            for (int command = 0; command < MAX_SCRIPT; command++) {
                int kind = furthestKind(place);
                match(kind, place);
                if (!complete) {
                    return reached;
                }
                keepCommand(command, kind);
                if (reached == length) {
                    return NONE;
                }
                if (text[reached] != ';') {
                    return reached;
                }
                place = reached + 1;
            }
            return place;
        }

        private void keepCommand(int command, int kind) {
            kinds[command] = kind;
            firsts[command] = kind == ONE_ROUND ? 1 : firstNumber;
            seconds[command] = secondNumber;
            commands = command + 1;
        }

        /**
         * Returns the kind that matches the most characters. No two kinds that are complete end at the
         * same place, and of those that fail the furthest tells the error position. ONE_ROUND stands
         * before ROUNDS, so "round" alone counts as complete.
         */
        private int furthestKind(int start) {
            int best = 0;
            int furthest = NONE;
            for (int kind = 0; kind < KINDS; kind++) {
                match(kind, start);
                if (reached > furthest) {
                    best = kind;
                    furthest = reached;
                }
            }
            return best;
        }

        private static String formOf(int kind) {
            switch (kind) {
                case EAR:
                    return "ear # #";
                case LINK:
                    return "link @ @";
                case CUT:
                    return "cut @ @";
                case START:
                    return "start @ #";
                case CHECK:
                    return "check # @";
                case DENY:
                    return "deny #";
                case ANSWER:
                    return "answer # #";
                case MOVE:
                    return "move @ #";
                case ONE_ROUND:
                    return "round";
                default:
                    return "round @";
            }
        }

        private void match(int kind, int start) {
            String form = formOf(kind);
            reached = start;
            complete = false;
            numbers = 0;
            firstNumber = 0;
            secondNumber = 0;
            for (int index = 0; index < form.length(); index++) {
                if (!takes(form.charAt(index))) {
                    return;
                }
            }
            complete = true;
        }

        private boolean takes(char sign) {
            if (sign == DIGIT || sign == NUMBER) {
                return takesNumber(sign == NUMBER ? 2 : 1);
            }
            if (reached >= length || text[reached] != sign) {
                return false;
            }
            reached++;
            return true;
        }

        private boolean takesNumber(int mostDigits) {
            int value = 0;
            int digits = 0;
            while (digits < mostDigits && digitFollows()) {
                value = value * 10 + (text[reached] - '0');
                reached++;
                digits++;
            }
            if (numbers == 0) {
                firstNumber = value;
            } else {
                secondNumber = value;
            }
            numbers++;
            return digits > 0;
        }

        private boolean digitFollows() {
            return reached < length && text[reached] >= '0' && text[reached] <= '9';
        }
    }
}
