import java.util.ArrayList;
import java.util.Arrays;
import java.util.NoSuchElementException;

/**
 * A match of two teams and all who reckon it. What each call answers stands in the project's
 * document; the comments here only tell why something is done as it is.
 */
public final class Stumpward {
    private static final String SIGNS = "nw0123456blx!BCLSHORaz+?pq";
    private static final String EXTRAS = "nwblp";
    private static final int EXTRA_KINDS = 5;
    private static final String BOWLERS_WICKETS = "BCLSH";
    private static final int BUFFER = 12;
    private static final int PLAYERS = 11;
    private static final int INNINGS = 4;
    private static final int MATCHES = 12;
    private static final int MOST_OVERS = 50;
    private static final int MOST_RUNS_LESS = 999;
    private static final int OVER = 6;
    private static final int PENALTY = 5;
    private static final int REVIEWS = 2;
    private static final int ALL_OUT = 10;
    private static final int ALL_OUT_IN_EXTRA_OVER = 2;
    private static final int RESOURCES_OF_BALL = 12;
    // An innings of a full match has this many overs, which no run of calls can bowl.
    private static final int ENDLESS = 1000000;
    // No object is asked more often than this, so it tells no more acts either.
    private static final int MOST_ACTS = 512;

    private static final char NONE = ' ';
    private static final char NO_RESULT = '-';
    private static final char TIED = 't';
    private static final char DRAWN = 'd';
    private static final char NOT_IN = '-';
    private static final char IN = 'i';
    private static final char RETIRED = 'r';

    private static final int BOWL = 0;
    private static final int BALL = 1;
    private static final int REVIEW = 2;
    private static final int SEND = 3;
    private static final int RETIRE = 4;
    private static final int HURT = 5;
    private static final int MISCOUNT = 6;
    private static final int DECLARE = 7;
    private static final int ENFORCE = 8;
    private static final int RAIN = 9;
    private static final int TIME = 10;

    private final char[] buffer;
    private int typed;
    private final Log log;
    private final Game game;
    // The game in which acts are done again by other texts or laws.
    private final Game again;
    private final League league;

    public Stumpward() {
        buffer = new char[BUFFER];
        log = new Log();
        game = new Game();
        again = new Game();
        league = new League();
    }

    // The match.

    public int start(char format, int number, int version, int first)
            throws IllegalArgumentException, IllegalStateException {
        int most = format == 'l' ? MOST_OVERS : format == 'f' ? MOST_RUNS_LESS : 0;
        if (number < 1 || number > most || !isZeroOrOne(version) || !isZeroOrOne(first)) {
            throw new IllegalArgumentException();
        }
        if (game.isGoing() || league.size >= MATCHES) {
            throw new IllegalStateException();
        }
        log.wipe();
        game.open(format == 'f', number, version, first);
        return league.size;
    }

    public int type(char sign) throws IllegalArgumentException, IllegalStateException {
        if (SIGNS.indexOf(sign) < 0) {
            throw new IllegalArgumentException();
        }
        if (typed >= buffer.length) {
            throw new IllegalStateException();
        }
        buffer[typed] = sign;
        typed++;
        return typed;
    }

    public int clear() {
        int were = typed;
        typed = 0;
        return were;
    }

    public int bowl(int player)
            throws IllegalArgumentException, IllegalStateException, UnsupportedOperationException {
        requirePlayer(player);
        requireInnings();
        if (!game.mayBowl(player)) {
            throw new UnsupportedOperationException();
        }
        log.keep(BOWL, player);
        return game.tellBowler(player);
    }

    public int ball()
            throws IllegalArgumentException, IllegalStateException, UnsupportedOperationException {
        Ball ball = Ball.read(buffer, typed);
        if (ball == null) {
            throw new IllegalArgumentException();
        }
        requireInnings();
        if (!game.mayPlay()) {
            throw new UnsupportedOperationException();
        }
        typed = 0;
        log.keepBall(ball);
        int given = game.play(ball, false);
        settle();
        return given;
    }

    public boolean review() throws UnsupportedOperationException {
        if (!game.mayReview()) {
            throw new UnsupportedOperationException();
        }
        Ball last = game.lastBall;
        log.keep(REVIEW, 0);
        boolean isChanged = game.judge();
        if (isChanged) {
            game.play(last, true);
        }
        settle();
        return isChanged;
    }

    public int send(int player)
            throws IllegalArgumentException, IllegalStateException, UnsupportedOperationException {
        requirePlayer(player);
        requireInnings();
        if (!game.maySend(player)) {
            throw new UnsupportedOperationException();
        }
        log.keep(SEND, player);
        return game.tellNext(player);
    }

    public int retire(boolean isStriker) throws IllegalStateException, UnsupportedOperationException {
        requireInnings();
        if (!game.mayRetire()) {
            throw new UnsupportedOperationException();
        }
        log.keep(RETIRE, isStriker ? 1 : 0);
        return game.letRetire(isStriker);
    }

    public boolean hurt(int player) throws IllegalArgumentException, IllegalStateException {
        requirePlayer(player);
        requireInnings();
        log.keep(HURT, player);
        return game.tellHurt(player);
    }

    public int miscount(int balls) throws IllegalArgumentException, IllegalStateException {
        if (!isOverLength(balls) || game.isGoing() && !game.mayMiscount(balls)) {
            throw new IllegalArgumentException();
        }
        requireInnings();
        log.keep(MISCOUNT, balls);
        return game.tellLength(balls);
    }

    public int declare() throws IllegalStateException, UnsupportedOperationException {
        requireInnings();
        if (!game.mayDeclare()) {
            throw new UnsupportedOperationException();
        }
        log.keep(DECLARE, 0);
        int made = game.closeByDeclaring();
        settle();
        return made;
    }

    public int enforce() throws UnsupportedOperationException {
        if (!game.mayEnforce()) {
            throw new UnsupportedOperationException();
        }
        log.keep(ENFORCE, 0);
        return game.makeFollowOn();
    }

    public int rain(int overs)
            throws IllegalArgumentException, IllegalStateException, UnsupportedOperationException {
        if (overs < 1 || overs > MOST_OVERS) {
            throw new IllegalArgumentException();
        }
        requireInnings();
        if (!game.mayRain(overs)) {
            throw new UnsupportedOperationException();
        }
        log.keep(RAIN, overs);
        int left = game.takeOvers(overs);
        settle();
        return left;
    }

    public boolean time() throws IllegalStateException {
        if (!game.mayEndByTime()) {
            throw new IllegalStateException();
        }
        log.keep(TIME, 0);
        game.endByTime();
        settle();
        return game.result == DRAWN;
    }

    // Scores.

    public int innings() {
        return game.count;
    }

    public int team(int innings) throws IndexOutOfBoundsException {
        return begun(innings).team;
    }

    public int runs(int innings) throws IndexOutOfBoundsException {
        return begun(innings).runs;
    }

    public int wickets(int innings) throws IndexOutOfBoundsException {
        return begun(innings).wickets;
    }

    public int balls(int innings) throws IndexOutOfBoundsException {
        return begun(innings).counted;
    }

    public int extras(int innings, char kind)
            throws IndexOutOfBoundsException, IllegalArgumentException {
        Innings asked = begun(innings);
        if (EXTRAS.indexOf(kind) < 0) {
            throw new IllegalArgumentException();
        }
        return asked.extrasOf(kind);
    }

    public int bonus(int team) throws IllegalArgumentException {
        requireTeam(team);
        return at(game.bonus, team);
    }

    public boolean isOn() {
        return game.isGoing();
    }

    public int striker() throws IllegalStateException {
        requireInnings();
        return game.now().batting.striker;
    }

    public int other() throws IllegalStateException {
        requireInnings();
        return game.now().batting.other;
    }

    public int batted(int innings, int player) throws IndexOutOfBoundsException {
        Innings asked = begun(innings);
        requireIndexOfPlayer(player);
        return at(asked.batting.made, player);
    }

    public int faced(int innings, int player) throws IndexOutOfBoundsException {
        Innings asked = begun(innings);
        requireIndexOfPlayer(player);
        return at(asked.batting.met, player);
    }

    public int boundaries(int innings, int player) throws IndexOutOfBoundsException {
        Innings asked = begun(innings);
        requireIndexOfPlayer(player);
        return at(asked.batting.over, player);
    }

    public char state(int innings, int player) throws IndexOutOfBoundsException {
        Innings asked = begun(innings);
        requireIndexOfPlayer(player);
        return asked.batting.stateOf(player);
    }

    public int bowled(int innings, int player, char what)
            throws IndexOutOfBoundsException, IllegalArgumentException {
        Bowling asked = begun(innings).bowling;
        requireIndexOfPlayer(player);
        if (what == 'b') {
            return at(asked.sent, player);
        }
        if (what == 'r') {
            return at(asked.given, player);
        }
        if (what == 'w') {
            return at(asked.taken, player);
        }
        if (what == 'm') {
            return at(asked.maidens, player);
        }
        throw new IllegalArgumentException();
    }

    public int fall(int innings, int wicket) throws IndexOutOfBoundsException, NoSuchElementException {
        Innings asked = begun(innings);
        if (wicket < 1 || wicket > asked.wickets) {
            throw new NoSuchElementException();
        }
        return at(asked.falls, wicket);
    }

    public int partnership(int innings) throws IndexOutOfBoundsException {
        return begun(innings).greatestStand();
    }

    public int target() throws IllegalStateException, NoSuchElementException {
        requireInnings();
        if (!game.hasTarget()) {
            throw new NoSuchElementException();
        }
        return game.findTarget();
    }

    public int resources(int innings) throws IndexOutOfBoundsException, UnsupportedOperationException {
        Innings asked = begun(innings);
        if (game.isFull || innings > 1) {
            throw new UnsupportedOperationException();
        }
        return asked.resources;
    }

    public char result() {
        // An appeal changes the result of the match that was on last, too.
        return game.result == NO_RESULT ? NO_RESULT : league.resultAt(league.size - 1);
    }

    public int reviews(int team) throws IllegalArgumentException, IllegalStateException {
        requireTeam(team);
        requireInnings();
        return at(game.now().reviews, team);
    }

    // Scorers and laws.

    public int told() {
        return log.told.size();
    }

    public char signAt(int ball, int index) throws IndexOutOfBoundsException, NoSuchElementException {
        if (ball < 0 || ball >= log.told.size()) {
            throw new IndexOutOfBoundsException();
        }
        Ball asked = log.told.get(ball);
        if (index < 0 || index >= asked.signs.length) {
            throw new NoSuchElementException();
        }
        return asked.signs[index];
    }

    public boolean note() throws IllegalArgumentException, UnsupportedOperationException {
        Ball noted = Ball.read(buffer, typed);
        if (noted == null) {
            throw new IllegalArgumentException();
        }
        if (log.told.isEmpty()) {
            throw new UnsupportedOperationException();
        }
        typed = 0;
        return log.noteLast(noted);
    }

    public int firstDiffering() throws NoSuchElementException {
        int found = log.findDiffering();
        if (found < 0) {
            throw new NoSuchElementException();
        }
        return found;
    }

    public int runsBySecond(int innings) throws IndexOutOfBoundsException {
        doAgain(log.noted, game.version);
        return begunAgain(innings).runs;
    }

    public int runsBy(int innings, int version)
            throws IllegalArgumentException, IndexOutOfBoundsException {
        if (!isZeroOrOne(version)) {
            throw new IllegalArgumentException();
        }
        doAgain(log.told, version);
        return begunAgain(innings).runs;
    }

    public int wrongBoxes(int batters, int extras, int total, int bowlers, int others) {
        long byBatters = (long) batters + extras;
        long byBowlers = (long) bowlers + others;
        if (byBatters == total && byBowlers == total) {
            return 0;
        }
        // One box is enough if one side is right, or if both sides ask for the same total.
        return byBatters == total || byBowlers == total || byBatters == byBowlers ? 1 : 2;
    }

    // League.

    public char resultOf(int match) throws IndexOutOfBoundsException {
        requireMatch(match);
        return league.resultAt(match);
    }

    public char amend(int match, char result) throws IndexOutOfBoundsException, IllegalArgumentException {
        requireMatch(match);
        if (result != '0' && result != '1' && result != TIED && result != DRAWN) {
            throw new IllegalArgumentException();
        }
        return league.change(match, result);
    }

    public int points(int team) throws IllegalArgumentException {
        requireTeam(team);
        return league.pointsOf(team);
    }

    public int netRate(int team) throws IllegalArgumentException {
        requireTeam(team);
        return league.rateOf(team) - league.rateOf(1 - team);
    }

    // Figures.

    public long checksum() {
        long sum = 0;
        for (int i = 0; i < game.count && i < INNINGS; i++) {
            Innings next = game.innings[i];
            sum = 31 * sum + next.runs + 1000L * next.wickets;
        }
        return sum;
    }

    public float extraShare(int innings) throws IndexOutOfBoundsException, ArithmeticException {
        Innings asked = begun(innings);
        if (asked.runs == 0) {
            throw new ArithmeticException();
        }
        return (float) sum(asked.extras) / (float) asked.runs;
    }

    public double meanRuns(int innings) throws IndexOutOfBoundsException, ArithmeticException {
        Innings asked = begun(innings);
        if (asked.wickets == 0) {
            throw new ArithmeticException();
        }
        return (double) asked.runs / (double) asked.wickets;
    }

    public boolean isSound() {
        doAgain(log.told, game.version);
        boolean isSame = again.count == game.count && again.result == game.result;
        for (int i = 0; i < game.count && i < INNINGS; i++) {
            Innings first = game.innings[i];
            Innings second = again.innings[i];
            isSame = isSame && first.isBalanced();
            isSame = isSame && first.runs == second.runs && first.wickets == second.wickets;
        }
        return isSame;
    }

    // What the calls share.

    private static boolean isZeroOrOne(int number) {
        return number == 0 || number == 1;
    }

    private static boolean isPlayer(int player) {
        return player >= 0 && player < PLAYERS;
    }

    private static boolean isOverLength(int length) {
        return length >= OVER - 1 && length <= OVER + 1;
    }

    private static int at(int[] row, int index) {
        return index >= 0 && index < row.length ? row[index] : 0;
    }

    private static void add(int[] row, int index, int more) {
        if (index >= 0 && index < row.length) {
            row[index] += more;
        }
    }

    private static int sum(int[] row) {
        int all = 0;
        for (int i = 0; i < row.length; i++) {
            all += row[i];
        }
        return all;
    }

    private static void copyRow(int[] from, int[] to) {
        System.arraycopy(from, 0, to, 0, Math.min(from.length, to.length));
    }

    private static void requirePlayer(int player) {
        if (!isPlayer(player)) {
            throw new IllegalArgumentException();
        }
    }

    private static void requireIndexOfPlayer(int player) {
        if (!isPlayer(player)) {
            throw new IndexOutOfBoundsException();
        }
    }

    private static void requireTeam(int team) {
        if (!isZeroOrOne(team)) {
            throw new IllegalArgumentException();
        }
    }

    private void requireInnings() {
        if (!game.isGoing()) {
            throw new IllegalStateException();
        }
    }

    private void requireMatch(int match) {
        if (match < 0 || match >= league.size) {
            throw new IndexOutOfBoundsException();
        }
    }

    private Innings begun(int innings) {
        if (innings < 0 || innings >= game.count || innings >= INNINGS) {
            throw new IndexOutOfBoundsException();
        }
        return game.innings[innings];
    }

    private Innings begunAgain(int innings) {
        if (innings < 0 || innings >= again.count || innings >= INNINGS) {
            throw new IndexOutOfBoundsException();
        }
        return again.innings[innings];
    }

    private void settle() {
        game.endInnings();
        if (game.result != NO_RESULT) {
            league.keep(game);
        }
    }

    private void doAgain(ArrayList<Ball> texts, int version) {
        if (game.count == 0) {
            return;
        }
        again.open(game.isFull, game.number, version, game.first);
        for (int i = 0; i < log.size && i < MOST_ACTS; i++) {
            int value = log.values[i];
            Ball ball = null;
            if (log.kinds[i] == BALL && value >= 0 && value < texts.size()) {
                ball = texts.get(value);
            }
            again.redo(log.kinds[i], value, ball);
            again.endInnings();
        }
    }

    /** A text that was read as a ball. */
    private static final class Ball {
        final char[] signs;
        int at;
        char kind;
        char byes;
        int digit;
        boolean isBoundary;
        boolean isShort;
        char out;
        char end;
        boolean isCrossed;
        boolean isErring;
        char penalty;

        Ball(char[] signs) {
            this.signs = signs;
        }

        /** Answers null if the text is no ball. */
        static Ball read(char[] buffer, int length) {
            if (length < 1 || length > buffer.length) {
                return null;
            }
            char[] signs = new char[length];
            System.arraycopy(buffer, 0, signs, 0, length);
            Ball ball = new Ball(signs);
            ball.readParts();
            boolean isWhole = ball.at == length;
            return isWhole && ball.areRunsRight() && ball.isOutRight() && ball.isErringRight() ? ball : null;
        }

        void readParts() {
            kind = take("nw");
            byes = take("bl");
            char sign = take("0123456");
            digit = sign == NONE ? -1 : sign - '0';
            isBoundary = take("!") != NONE;
            isShort = take("x") != NONE;
            out = take("BCLSHOR");
            end = out == 'R' ? take("az") : NONE;
            isCrossed = take("+") != NONE;
            isErring = take("?") != NONE;
            penalty = take("pq");
        }

        char take(String wanted) {
            if (at < 0 || at >= signs.length || wanted.indexOf(signs[at]) < 0) {
                return NONE;
            }
            char taken = signs[at];
            at++;
            return taken;
        }

        boolean areRunsRight() {
            if (byes != NONE && (digit < 0 || kind == 'w')) {
                return false;
            }
            boolean isSixRight = digit == 6 && kind != 'w' && byes == NONE;
            if (isBoundary && digit != 4 && !isSixRight) {
                return false;
            }
            return !isShort || digit >= 1 && !isBoundary;
        }

        boolean isOutRight() {
            if (out == 'R' && end == NONE) {
                return false;
            }
            if (digit >= 0 && BOWLERS_WICKETS.indexOf(out) >= 0) {
                return false;
            }
            return !isCrossed || out == 'C' || out == 'O' || out == 'R';
        }

        boolean isErringRight() {
            if (!isErring) {
                return true;
            }
            if (kind != NONE) {
                return false;
            }
            boolean isNought = digit == 0 && byes == NONE && out == NONE;
            return out == 'C' || out == 'L' || isNought;
        }

        boolean isCounting() {
            return kind == NONE;
        }

        boolean isReviewable() {
            return kind == NONE && (out == 'C' || out == 'L' || isErring);
        }

        boolean isChanging() {
            return !isBoundary && (digit == 1 || digit == 3 || digit == 5);
        }

        boolean isOffBat() {
            return kind != 'w' && byes == NONE;
        }

        int findRuns() {
            if (digit < 0) {
                return 0;
            }
            return isShort ? digit - 1 : digit;
        }

        /** By what the umpire gives somebody out, or NONE; a righted ball is one without its ?. */
        char verdict(boolean isRighted) {
            if (isErring && !isRighted) {
                return out == NONE ? 'L' : NONE;
            }
            if (kind == 'n' && BOWLERS_WICKETS.indexOf(out) >= 0) {
                return NONE;
            }
            if (kind == 'w' && (out == 'B' || out == 'C' || out == 'L')) {
                return NONE;
            }
            return out;
        }

        boolean isSameText(Ball ball) {
            if (signs.length != ball.signs.length) {
                return false;
            }
            for (int i = 0; i < signs.length && i < ball.signs.length; i++) {
                if (signs[i] != ball.signs[i]) {
                    return false;
                }
            }
            return true;
        }
    }

    /** The acts of the match, with the texts of both scorers. */
    private static final class Log {
        final int[] kinds = new int[MOST_ACTS];
        // The player, balls or overs told; of a ball its number.
        final int[] values = new int[MOST_ACTS];
        int size;
        final ArrayList<Ball> told = new ArrayList<Ball>();
        final ArrayList<Ball> noted = new ArrayList<Ball>();

        void wipe() {
            size = 0;
            told.clear();
            noted.clear();
        }

        void keep(int kind, int value) {
            if (size < MOST_ACTS) {
                kinds[size] = kind;
                values[size] = value;
                size++;
            }
        }

        void keepBall(Ball ball) {
            if (size < MOST_ACTS) {
                keep(BALL, told.size());
                told.add(ball);
                noted.add(ball);
            }
        }

        /** Answers whether the text is another one than that of the first scorer. */
        boolean noteLast(Ball ball) {
            int last = told.size() - 1;
            if (last < 0 || last >= noted.size()) {
                return false;
            }
            noted.set(last, ball);
            return !ball.isSameText(told.get(last));
        }

        int findDiffering() {
            for (int i = 0; i < told.size() && i < noted.size(); i++) {
                if (!told.get(i).isSameText(noted.get(i))) {
                    return i;
                }
            }
            return -1;
        }
    }

    /** The batters of an innings. */
    private static final class Batting {
        int striker;
        int other;
        int next;
        final int[] made = new int[PLAYERS];
        final int[] met = new int[PLAYERS];
        final int[] over = new int[PLAYERS];
        final char[] states = new char[PLAYERS];

        void open() {
            striker = 0;
            other = 1;
            next = -1;
            Arrays.fill(made, 0);
            Arrays.fill(met, 0);
            Arrays.fill(over, 0);
            for (int i = 0; i < PLAYERS; i++) {
                states[i] = i == striker || i == other ? IN : NOT_IN;
            }
        }

        void copyFrom(Batting from) {
            striker = from.striker;
            other = from.other;
            next = from.next;
            copyRow(from.made, made);
            copyRow(from.met, met);
            copyRow(from.over, over);
            System.arraycopy(from.states, 0, states, 0, PLAYERS);
        }

        char stateOf(int player) {
            return isPlayer(player) ? states[player] : NOT_IN;
        }

        void changeEnds() {
            int was = striker;
            striker = other;
            other = was;
        }

        int findNext() {
            if (next >= 0) {
                return next;
            }
            int fresh = findLowest(NOT_IN);
            return fresh >= 0 ? fresh : findLowest(RETIRED);
        }

        int findLowest(char wanted) {
            for (int i = 0; i < PLAYERS; i++) {
                if (states[i] == wanted) {
                    return i;
                }
            }
            return -1;
        }

        /** Answers who comes, or -1. */
        int replace(int leaving, char how) {
            // Who comes is found first: one who retires does not come back by that.
            int coming = findNext();
            if (isPlayer(leaving)) {
                states[leaving] = how;
            }
            if (!isPlayer(coming)) {
                return -1;
            }
            states[coming] = IN;
            next = -1;
            if (striker == leaving) {
                striker = coming;
            } else {
                other = coming;
            }
            return coming;
        }

        int countOut() {
            int out = 0;
            for (int i = 0; i < PLAYERS; i++) {
                if (states[i] != NOT_IN && states[i] != IN && states[i] != RETIRED) {
                    out++;
                }
            }
            return out;
        }
    }

    /** The bowlers of an innings, and the over that is on or begins. */
    private static final class Bowling {
        int bowler;
        // Who bowled the last ball of the over before.
        int previous;
        int starter;
        int oversDone;
        int ballsInOver;
        int countedInOver;
        int givenInOver;
        int length;
        boolean isSplit;
        final int[] begun = new int[PLAYERS];
        final int[] sent = new int[PLAYERS];
        final int[] given = new int[PLAYERS];
        final int[] taken = new int[PLAYERS];
        final int[] maidens = new int[PLAYERS];
        final boolean[] isHurt = new boolean[PLAYERS];

        void open() {
            previous = -1;
            oversDone = 0;
            Arrays.fill(begun, 0);
            Arrays.fill(sent, 0);
            Arrays.fill(given, 0);
            Arrays.fill(taken, 0);
            Arrays.fill(maidens, 0);
            for (int i = 0; i < PLAYERS; i++) {
                isHurt[i] = false;
            }
        }

        void openOver() {
            bowler = -1;
            starter = -1;
            ballsInOver = 0;
            countedInOver = 0;
            givenInOver = 0;
            length = OVER;
            isSplit = false;
        }

        void copyFrom(Bowling from) {
            bowler = from.bowler;
            previous = from.previous;
            starter = from.starter;
            oversDone = from.oversDone;
            ballsInOver = from.ballsInOver;
            countedInOver = from.countedInOver;
            givenInOver = from.givenInOver;
            length = from.length;
            isSplit = from.isSplit;
            copyRow(from.begun, begun);
            copyRow(from.sent, sent);
            copyRow(from.given, given);
            copyRow(from.taken, taken);
            copyRow(from.maidens, maidens);
            System.arraycopy(from.isHurt, 0, isHurt, 0, PLAYERS);
        }

        boolean isOverOn() {
            return ballsInOver > 0;
        }

        boolean isFit(int player) {
            return isPlayer(player) && !isHurt[player];
        }

        boolean isAllowed(int player, int mostOvers) {
            if (!isFit(player) || player == previous) {
                return false;
            }
            if (!isOverOn()) {
                return at(begun, player) < mostOvers;
            }
            return player == bowler || !isFit(bowler);
        }

        /** Answers how many overs this one has begun, with one that begins. */
        int tell(int player) {
            bowler = player;
            return at(begun, player) + (isOverOn() ? 0 : 1);
        }

        boolean makeHurt(int player) {
            if (!isFit(player)) {
                return false;
            }
            isHurt[player] = true;
            return true;
        }

        void bowlOne(boolean isCounting, int runs, boolean isTaken) {
            if (!isOverOn()) {
                starter = bowler;
                add(begun, bowler, 1);
            }
            isSplit = isSplit || starter != bowler;
            ballsInOver++;
            givenInOver += runs;
            add(given, bowler, runs);
            add(taken, bowler, isTaken ? 1 : 0);
            if (isCounting) {
                countedInOver++;
                add(sent, bowler, 1);
            }
        }

        /** Answers whether the over is over, and then makes room for the next one. */
        boolean closeOver() {
            if (countedInOver < length) {
                return false;
            }
            if (!isSplit && givenInOver == 0) {
                add(maidens, bowler, 1);
            }
            previous = bowler;
            oversDone++;
            openOver();
            return true;
        }
    }

    /** An innings: what balls made of it. */
    private static final class Innings {
        int team;
        int overs;
        int allOut;
        int acts;
        int resources;
        boolean isDeclared;
        int runs;
        int wickets;
        int counted;
        final int[] extras = new int[EXTRA_KINDS];
        final int[] falls = new int[PLAYERS + 1];
        final int[] reviews = new int[2];
        final Batting batting = new Batting();
        final Bowling bowling = new Bowling();

        void open(int team, int overs, int allOut) {
            this.team = team;
            this.overs = overs;
            this.allOut = allOut;
            acts = 0;
            resources = overs * OVER * RESOURCES_OF_BALL;
            isDeclared = false;
            runs = 0;
            wickets = 0;
            counted = 0;
            Arrays.fill(extras, 0);
            Arrays.fill(falls, 0);
            Arrays.fill(reviews, REVIEWS);
            batting.open();
            bowling.open();
            bowling.openOver();
        }

        void copyFrom(Innings from) {
            team = from.team;
            overs = from.overs;
            allOut = from.allOut;
            acts = from.acts;
            resources = from.resources;
            isDeclared = from.isDeclared;
            runs = from.runs;
            wickets = from.wickets;
            counted = from.counted;
            copyRow(from.extras, extras);
            copyRow(from.falls, falls);
            copyRow(from.reviews, reviews);
            batting.copyFrom(from.batting);
            bowling.copyFrom(from.bowling);
        }

        boolean isDone() {
            return isDeclared || wickets >= allOut || bowling.oversDone >= overs;
        }

        int oversNotBegun() {
            return overs - bowling.oversDone - (bowling.isOverOn() ? 1 : 0);
        }

        int extrasOf(char kind) {
            return at(extras, EXTRAS.indexOf(kind));
        }

        void addExtras(char kind, int more) {
            add(extras, EXTRAS.indexOf(kind), more);
            runs += more;
        }

        /** Does the laws of a ball in their order; answers the runs for the team that bats. */
        int play(Ball ball, boolean isRighted, int version) {
            int runsBefore = runs;
            int striker = batting.striker;
            int other = batting.other;
            char out = ball.verdict(isRighted);
            score(ball, striker, version);
            int given = ball.byes == NONE ? runs - runsBefore : runs - runsBefore - ball.findRuns();
            changeEnds(ball, out, version);
            if (out != NONE) {
                // A catch in version 1 changes no ends, so that this place is the striker's there.
                batting.replace(ball.end == 'z' ? other : striker, out);
                wickets++;
            }
            if (ball.penalty == 'p') {
                addExtras('p', PENALTY);
            }
            if (out != NONE && wickets < falls.length) {
                falls[wickets] = runs;
            }
            if (ball.isCounting()) {
                counted++;
            }
            bowling.bowlOne(ball.isCounting(), given, BOWLERS_WICKETS.indexOf(out) >= 0);
            if (bowling.closeOver()) {
                batting.changeEnds();
            }
            return runs - runsBefore;
        }

        void score(Ball ball, int striker, int version) {
            if (ball.kind == 'n') {
                addExtras('n', version == 0 ? 1 : 2);
            }
            if (ball.kind == 'w') {
                addExtras('w', 1);
            } else {
                add(batting.met, striker, 1);
            }
            if (ball.isOffBat()) {
                runs += ball.findRuns();
                add(batting.made, striker, ball.findRuns());
                add(batting.over, striker, ball.isBoundary ? 1 : 0);
            } else {
                addExtras(ball.kind == 'w' ? 'w' : ball.byes, ball.findRuns());
            }
        }

        void changeEnds(Ball ball, char out, int version) {
            if (ball.isChanging()) {
                batting.changeEnds();
            }
            boolean isCaughtCrossing = ball.out == 'C' && out == 'C' && version == 0;
            if (ball.isCrossed && (ball.out == 'O' || ball.out == 'R' || isCaughtCrossing)) {
                batting.changeEnds();
            }
        }

        void loseOvers(int lost) {
            overs -= lost;
            resources -= lost * OVER * (RESOURCES_OF_BALL - wickets);
        }

        int greatestStand() {
            int greatest = runs - at(falls, wickets);
            for (int i = 1; i <= wickets && i < falls.length; i++) {
                greatest = Math.max(greatest, falls[i] - falls[i - 1]);
            }
            return greatest;
        }

        boolean isBalanced() {
            int notBowlers = extrasOf('b') + extrasOf('l') + extrasOf('p');
            return sum(batting.made) + sum(extras) == runs
                    && sum(bowling.given) + notBowlers == runs
                    && sum(bowling.sent) == counted
                    && batting.countOut() == wickets;
        }
    }

    /** A match: its innings, targets and result. A "may" stands for all that an act needs. */
    private static final class Game {
        boolean isFull;
        int number;
        int version;
        int first;
        int count;
        char result = NO_RESULT;
        final Innings[] innings = new Innings[INNINGS];
        final int[] bonus = new int[2];
        // The ball that was the last act, or null, and its innings as it was ahead of the ball.
        Ball lastBall;
        int lastInnings;
        final Innings saved = new Innings();
        final int[] savedBonus = new int[2];

        Game() {
            for (int i = 0; i < INNINGS; i++) {
                innings[i] = new Innings();
            }
        }

        void open(boolean isFull, int number, int version, int first) {
            this.isFull = isFull;
            this.number = number;
            this.version = version;
            this.first = first;
            count = 0;
            result = NO_RESULT;
            Arrays.fill(bonus, 0);
            lastBall = null;
            begin(first, isFull ? ENDLESS : number, ALL_OUT);
        }

        boolean isGoing() {
            return count > 0 && result == NO_RESULT;
        }

        Innings now() {
            return innings[Math.min(Math.max(count - 1, 0), INNINGS - 1)];
        }

        /** Notes that an act is done in the innings that is on. */
        Innings act() {
            lastBall = null;
            Innings now = now();
            now.acts++;
            return now;
        }

        boolean mayBowl(int player) {
            int mostOvers = isFull ? ENDLESS : (number + 4) / 5;
            return isGoing() && now().bowling.isAllowed(player, mostOvers);
        }

        int tellBowler(int player) {
            return act().bowling.tell(player);
        }

        boolean mayPlay() {
            return isGoing() && now().bowling.isFit(now().bowling.bowler);
        }

        int play(Ball ball, boolean isRighted) {
            if (ball == null) {
                return 0;
            }
            if (ball.isReviewable()) {
                saved.copyFrom(now());
                copyRow(bonus, savedBonus);
            }
            Innings now = act();
            lastBall = isRighted ? null : ball;
            lastInnings = count - 1;
            int given = now.play(ball, isRighted, version);
            if (ball.penalty == 'q') {
                add(bonus, 1 - now.team, PENALTY);
            }
            return given;
        }

        boolean mayReview() {
            if (!isGoing() || lastBall == null || !lastBall.isReviewable()) {
                return false;
            }
            return lastInnings >= 0 && lastInnings < INNINGS
                    && at(innings[lastInnings].reviews, findReviewer()) > 0;
        }

        /** Finds the team against which the umpire's word on the last ball was. */
        int findReviewer() {
            if (lastBall == null || lastInnings < 0 || lastInnings >= INNINGS) {
                return -1;
            }
            int batting = innings[lastInnings].team;
            return lastBall.verdict(false) != NONE ? batting : 1 - batting;
        }

        /** Answers whether the umpire had erred; then all is as it was ahead of the ball. */
        boolean judge() {
            if (lastBall == null || lastInnings < 0 || lastInnings >= INNINGS) {
                return false;
            }
            Innings past = innings[lastInnings];
            if (!lastBall.isErring) {
                add(past.reviews, findReviewer(), -1);
                lastBall = null;
                return false;
            }
            past.copyFrom(saved);
            copyRow(savedBonus, bonus);
            count = lastInnings + 1;
            return true;
        }

        boolean maySend(int player) {
            return isGoing() && isPlayer(player) && now().batting.stateOf(player) == NOT_IN;
        }

        int tellNext(int player) {
            Batting batting = act().batting;
            int would = batting.findNext();
            batting.next = player;
            return would;
        }

        boolean mayRetire() {
            return isGoing() && now().batting.findNext() >= 0;
        }

        int letRetire(boolean isStriker) {
            Batting batting = act().batting;
            return batting.replace(isStriker ? batting.striker : batting.other, RETIRED);
        }

        boolean tellHurt(int player) {
            return act().bowling.makeHurt(player);
        }

        boolean mayMiscount(int balls) {
            return isGoing() && isOverLength(balls) && balls > now().bowling.countedInOver;
        }

        int tellLength(int balls) {
            Bowling bowling = act().bowling;
            int would = bowling.length;
            bowling.length = balls;
            return would;
        }

        boolean mayDeclare() {
            return isGoing() && isFull;
        }

        int closeByDeclaring() {
            Innings now = act();
            now.isDeclared = true;
            return now.runs;
        }

        boolean mayEnforce() {
            return isGoing() && isFull && count == 3 && now().acts == 0
                    && innings[0].runs - innings[1].runs >= number;
        }

        int makeFollowOn() {
            act().team = 1 - first;
            return innings[0].runs - innings[1].runs;
        }

        boolean mayRain(int overs) {
            return isGoing() && !isFull && count <= 2 && overs <= now().oversNotBegun();
        }

        int takeOvers(int overs) {
            Innings now = act();
            now.loseOvers(overs);
            return now.overs;
        }

        boolean mayEndByTime() {
            return isGoing() && isFull;
        }

        void endByTime() {
            act();
            result = DRAWN;
        }

        /** Does an act again if it can be done now, too. */
        void redo(int kind, int value, Ball ball) {
            Ball last = lastBall;
            if (kind != REVIEW) {
                // A review follows its own ball alone, also if that one is left out.
                lastBall = null;
            }
            switch (kind) {
                case BALL:
                    if (mayPlay()) {
                        play(ball, false);
                    }
                    break;
                case REVIEW:
                    if (mayReview() && judge()) {
                        play(last, true);
                    }
                    break;
                case BOWL:
                    if (mayBowl(value)) {
                        tellBowler(value);
                    }
                    break;
                case HURT:
                    if (isGoing()) {
                        tellHurt(value);
                    }
                    break;
                case MISCOUNT:
                    if (mayMiscount(value)) {
                        tellLength(value);
                    }
                    break;
                default:
                    redoOther(kind, value);
            }
        }

        void redoOther(int kind, int value) {
            switch (kind) {
                case SEND:
                    if (maySend(value)) {
                        tellNext(value);
                    }
                    break;
                case RETIRE:
                    if (mayRetire()) {
                        letRetire(value == 1);
                    }
                    break;
                case DECLARE:
                    if (mayDeclare()) {
                        closeByDeclaring();
                    }
                    break;
                case ENFORCE:
                    if (mayEnforce()) {
                        makeFollowOn();
                    }
                    break;
                case RAIN:
                    if (mayRain(value)) {
                        takeOvers(value);
                    }
                    break;
                default:
                    if (mayEndByTime()) {
                        endByTime();
                    }
            }
        }

        void begin(int team, int overs, int allOut) {
            if (count < INNINGS) {
                innings[count].open(team, overs, allOut);
                count++;
            }
        }

        /** Ends each innings that is over; one that begins can be over at once. */
        void endInnings() {
            for (int i = 0; i < INNINGS && isGoing(); i++) {
                boolean isReached = hasTarget() && findMissing() <= 0;
                if (!isReached && !now().isDone()) {
                    return;
                }
                if (count == 1) {
                    begin(1 - first, innings[0].overs, ALL_OUT);
                } else if (isFull) {
                    endOfFull();
                } else {
                    endOfLimited();
                }
            }
        }

        boolean hasTarget() {
            return count == 4 || count == 2 && !isFull;
        }

        int findTarget() {
            if (count == 2) {
                return limitedTarget();
            }
            if (!isFull) {
                return innings[2].runs + 1;
            }
            Innings now = now();
            return findTotal(1 - now.team) - (findTotal(now.team) - now.runs) + 1;
        }

        int limitedTarget() {
            int score = innings[0].runs + at(bonus, innings[0].team);
            int whole = innings[0].resources;
            int part = innings[1].resources;
            if (whole == part || whole <= 0) {
                return score + 1;
            }
            return score * part / whole + 1;
        }

        /** Finds how many runs are missing to the target. */
        int findMissing() {
            Innings now = now();
            // A bonus helps to reach the target of the second innings alone.
            int has = count == 2 ? now.runs + at(bonus, now.team) : now.runs;
            return findTarget() - has;
        }

        int findTotal(int team) {
            int total = at(bonus, team);
            for (int i = 0; i < count && i < INNINGS; i++) {
                if (innings[i].team == team) {
                    total += innings[i].runs;
                }
            }
            return total;
        }

        void endOfLimited() {
            if (count == 2) {
                int missing = findMissing();
                if (missing == 1 && version == 1) {
                    begin(1 - first, 1, ALL_OUT_IN_EXTRA_OVER);
                } else {
                    decide(1 - first, 1 - missing);
                }
            } else if (count == 3) {
                begin(first, 1, ALL_OUT_IN_EXTRA_OVER);
            } else {
                decide(first, innings[3].runs - innings[2].runs);
            }
        }

        void endOfFull() {
            if (count == 2) {
                begin(first, ENDLESS, ALL_OUT);
                return;
            }
            int team = now().team;
            int lead = findTotal(team) - findTotal(1 - team);
            if (count == 3 && lead >= 0) {
                begin(1 - team, ENDLESS, ALL_OUT);
            } else {
                decide(team, lead);
            }
        }

        /** Decides the match by the lead of a team. */
        void decide(int team, int lead) {
            if (lead == 0) {
                result = TIED;
            } else {
                int winner = lead > 0 ? team : 1 - team;
                result = winner == 0 ? '0' : '1';
            }
        }
    }

    /** The matches that have a result. */
    private static final class League {
        final char[] results = new char[MATCHES];
        int size;
        final int[] runs = new int[2];
        final int[] balls = new int[2];

        void keep(Game game) {
            if (size >= MATCHES) {
                return;
            }
            results[size] = game.result;
            size++;
            for (int i = 0; i < 2 && i < game.count && !game.isFull; i++) {
                Innings next = game.innings[i];
                add(runs, next.team, next.runs);
                add(balls, next.team, next.wickets >= ALL_OUT ? next.overs * OVER : next.counted);
            }
        }

        char resultAt(int match) {
            return match >= 0 && match < size && match < MATCHES ? results[match] : NO_RESULT;
        }

        char change(int match, char result) {
            char was = resultAt(match);
            if (match >= 0 && match < size && match < MATCHES) {
                results[match] = result;
            }
            return was;
        }

        int pointsOf(int team) {
            int points = 0;
            for (int i = 0; i < size && i < MATCHES; i++) {
                if (results[i] == TIED || results[i] == DRAWN) {
                    points += 1;
                } else if (results[i] == (team == 0 ? '0' : '1')) {
                    points += 2;
                }
            }
            return points;
        }

        int rateOf(int team) {
            int bowled = at(balls, team);
            return bowled <= 0 ? 0 : 6000 * at(runs, team) / bowled;
        }
    }
}
