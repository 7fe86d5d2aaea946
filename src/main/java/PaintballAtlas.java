/** A field designer, a referee desk and a league table of a game with paint. */
public final class PaintballAtlas {
    private static final int SIDE = 12;
    private static final int CELLS = SIDE * SIDE;
    private static final int TEAMS = 6;
    private static final int PLAYERS = 6;
    private static final int HOME_PLAYERS = 3;
    private static final int REFEREES = 2;
    private static final int MOST_TICKS = 50;
    private static final int MOST_SHOTS = 100;
    // An object is used for at most 512 calls, so no round can hold more calls of referees.
    private static final int MOST_CALLS = 512;
    private static final int POINTS_OF_A_WIN = 3;
    private static final int POINTS_OF_A_DRAW = 1;
    private static final int FINES_OF_A_PENALTY = 2;

    private static final int NO_ROUND = -1;
    private static final int NOBODY = -1;
    private static final int NOT_PLACED = -1;
    private static final int OUT = -2;
    private static final int NEVER = -1;

    private final Field field = new Field();
    private final Round round = new Round();
    private final Table table = new Table();
    private final int[] refereeCells = {0, CELLS - 1};

    /** An empty field, and a table of teams without rounds. */
    public PaintballAtlas() {
    }

    // ---- the field

    public boolean toggleBunker(int cell) throws IndexOutOfBoundsException, IllegalStateException {
        checkCell(cell);
        if (round.isPlayed()) {
            throw new IllegalStateException("a round is being played");
        }
        return field.turnBunker(cell);
    }

    public boolean sees(int one, int other) throws IndexOutOfBoundsException {
        checkCell(one);
        checkCell(other);
        return field.hasSight(one, other);
    }

    public int view(int cell) throws IndexOutOfBoundsException {
        checkCell(cell);
        return field.countSeen(cell);
    }

    public int setReferee(int referee, int cell) throws IndexOutOfBoundsException {
        checkReferee(referee);
        checkCell(cell);
        int before = refereeCells[referee];
        refereeCells[referee] = cell;
        return before;
    }

    // ---- a round

    public void begin(int home, int away)
            throws IndexOutOfBoundsException, IllegalArgumentException, IllegalStateException {
        checkTeam(home);
        checkTeam(away);
        if (home == away) {
            throw new IllegalArgumentException("a team does not play against itself");
        }
        if (round.isPlayed()) {
            throw new IllegalStateException("a round is being played");
        }
        round.start(home, away);
    }

    public int move(int player, int cell) throws IndexOutOfBoundsException, IllegalStateException {
        checkPlayer(player);
        checkCell(cell);
        checkRound();
        int before = round.cellOf(player);
        if (before == OUT) {
            throw new IllegalStateException("the player is out");
        }
        if (before >= 0 && Field.distance(before, cell) != 1) {
            throw new IllegalStateException("the cell is no neighbour");
        }
        if (field.hasBunker(cell) || round.playerOn(cell) != NOBODY) {
            throw new IllegalStateException("the cell is taken");
        }
        round.put(player, cell);
        return before;
    }

    public int shoot(int player, int cell) throws IndexOutOfBoundsException, IllegalStateException {
        checkPlayer(player);
        checkCell(cell);
        checkRound();
        int from = round.cellOf(player);
        if (from < 0) {
            throw new IllegalStateException("the player is out or not placed");
        }
        if (from == cell) {
            throw new IllegalStateException("the distance is 0");
        }
        if (!round.mayFire(player)) {
            throw new IllegalStateException("the player has shot in this tick, or the shots are used up");
        }
        return round.fire(player, cell);
    }

    public int pass(int ticks) throws IllegalArgumentException, IllegalStateException {
        if (ticks < 1 || ticks > MOST_TICKS) {
            throw new IllegalArgumentException("ticks out of range");
        }
        checkRound();
        int hits = 0;
        for (int passed = 0; passed < ticks; passed++) {
            hits += round.nextTick(field);
        }
        return hits;
    }

    public int call(int referee, int player) throws IndexOutOfBoundsException, IllegalStateException {
        checkReferee(referee);
        checkPlayer(player);
        checkRound();
        int cell = round.cellOf(player);
        if (cell < 0) {
            throw new IllegalStateException("the player is out or not placed");
        }
        if (!field.hasSight(refereeCells[referee], cell)) {
            throw new IllegalStateException("the referee does not see the player");
        }
        if (!round.mayCall()) {
            throw new IllegalStateException("the calls are used up");
        }
        return round.callOut(player);
    }

    public boolean dispute(int call) throws IndexOutOfBoundsException, IllegalStateException {
        if (!round.hasCall(call)) {
            throw new IndexOutOfBoundsException("no such call");
        }
        if (round.isDisputed(call)) {
            throw new IllegalStateException("the call was disputed");
        }
        boolean right = round.judge(call);
        if (right) {
            table.fine(round.teamCalled(call));
        }
        return right;
    }

    public int end() throws IllegalStateException {
        checkRound();
        int margin = round.margin();
        table.enter(round.homeTeam(), round.awayTeam(), margin);
        round.close();
        return margin;
    }

    public int tick() {
        return round.time();
    }

    public int where(int player) throws IndexOutOfBoundsException {
        checkPlayer(player);
        return round.cellOf(player);
    }

    public int hit(int player) throws IndexOutOfBoundsException {
        checkPlayer(player);
        return round.hitOf(player);
    }

    public int flying() {
        return round.countFlying();
    }

    // ---- the table

    public int points(int team) throws IndexOutOfBoundsException {
        checkTeam(team);
        return table.pointsOf(team);
    }

    public int fines(int team) throws IndexOutOfBoundsException {
        checkTeam(team);
        return table.finesOf(team);
    }

    public int difference(int team) throws IndexOutOfBoundsException {
        checkTeam(team);
        return table.differenceOf(team);
    }

    public int place(int team) throws IndexOutOfBoundsException {
        checkTeam(team);
        return table.placeOf(team);
    }

    // ---- which arguments and moments are refused

    private static void checkCell(int cell) {
        if (cell < 0 || cell >= CELLS) {
            throw new IndexOutOfBoundsException("no such cell");
        }
    }

    private static void checkTeam(int team) {
        if (team < 0 || team >= TEAMS) {
            throw new IndexOutOfBoundsException("no such team");
        }
    }

    private static void checkPlayer(int player) {
        if (player < 0 || player >= PLAYERS) {
            throw new IndexOutOfBoundsException("no such player");
        }
    }

    private static void checkReferee(int referee) {
        if (referee < 0 || referee >= REFEREES) {
            throw new IndexOutOfBoundsException("no such referee");
        }
    }

    private void checkRound() {
        if (!round.isPlayed()) {
            throw new IllegalStateException("no round is being played");
        }
    }

    /** The cells, their bunkers and the sight between them. */
    private static final class Field {
        private final boolean[] bunkers = new boolean[CELLS];

        static int distance(int one, int other) {
            int rows = Math.abs(one / SIDE - other / SIDE);
            int columns = Math.abs(one % SIDE - other % SIDE);
            return Math.max(rows, columns);
        }

        boolean hasBunker(int cell) {
            return bunkers[cell];
        }

        boolean turnBunker(int cell) {
            bunkers[cell] = !bunkers[cell];
            return bunkers[cell];
        }

        int countSeen(int cell) {
            int seen = 0;
            for (int other = 0; other < CELLS; other++) {
                if (hasSight(cell, other)) {
                    seen++;
                }
            }
            return seen;
        }

        boolean hasSight(int one, int other) {
            if (one == other) {
                return !bunkers[one];
            }
            int top = Math.min(one / SIDE, other / SIDE);
            int bottom = Math.max(one / SIDE, other / SIDE);
            int left = Math.min(one % SIDE, other % SIDE);
            int right = Math.max(one % SIDE, other % SIDE);
            for (int row = top; row <= bottom; row++) {
                for (int column = left; column <= right; column++) {
                    int between = SIDE * row + column;
                    if (bunkers[between] && lineEnters(one, other, between)) {
                        return false;
                    }
                }
            }
            return true;
        }

        // Told only of two different cells and one between their rows and columns: there the line
        // leads through the inside just if corners of the cell lie strictly on both its sides.
        // The cross product of the middle, doubled to stay whole, is then nearer to 0 than half
        // the cell reaches across the line.
        private static boolean lineEnters(int one, int other, int between) {
            int rows = other / SIDE - one / SIDE;
            int columns = other % SIDE - one % SIDE;
            int rowsIn = between / SIDE - one / SIDE;
            int columnsIn = between % SIDE - one % SIDE;
            int cross = rows * columnsIn - columns * rowsIn;
            return 2 * Math.abs(cross) < Math.abs(rows) + Math.abs(columns);
        }
    }

    /** The round being played; between rounds it is empty, and its players are out. */
    private static final class Round {
        private int home;
        private int away;
        private int tick = NO_ROUND;
        private final int[] cells = new int[PLAYERS];
        private final int[] hits = new int[PLAYERS];
        private final int[] lastShots = new int[PLAYERS];
        private final Shots shots = new Shots();
        private final Calls calls = new Calls();

        Round() {
            reset(OUT);
        }

        void start(int homeTeam, int awayTeam) {
            home = homeTeam;
            away = awayTeam;
            tick = 0;
            reset(NOT_PLACED);
        }

        void close() {
            tick = NO_ROUND;
            reset(OUT);
        }

        private void reset(int cell) {
            for (int player = 0; player < PLAYERS; player++) {
                cells[player] = cell;
                hits[player] = NEVER;
                lastShots[player] = NEVER;
            }
            shots.count = 0;
            calls.count = 0;
        }

        boolean isPlayed() {
            return tick != NO_ROUND;
        }

        int time() {
            return tick;
        }

        int homeTeam() {
            return home;
        }

        int awayTeam() {
            return away;
        }

        int cellOf(int player) {
            return cells[player];
        }

        int hitOf(int player) {
            return hits[player];
        }

        int playerOn(int cell) {
            for (int player = 0; player < PLAYERS; player++) {
                if (cells[player] == cell) {
                    return player;
                }
            }
            return NOBODY;
        }

        void put(int player, int cell) {
            cells[player] = cell;
        }

        boolean mayFire(int player) {
            return lastShots[player] != tick && shots.count < MOST_SHOTS;
        }

        int fire(int player, int target) {
            int from = cells[player];
            int arrival = tick + (Field.distance(from, target) + 3) / 4;
            lastShots[player] = tick;
            shots.add(player, from, target, arrival);
            return arrival;
        }

        int countFlying() {
            int flying = 0;
            for (int shot = 0; shot < shots.count; shot++) {
                if (shots.arrivals[shot] > tick) {
                    flying++;
                }
            }
            return flying;
        }

        int nextTick(Field field) {
            tick++;
            int struck = 0;
            for (int shot = 0; shot < shots.count; shot++) {
                if (shots.arrivals[shot] == tick && strikes(shot, field)) {
                    struck++;
                }
            }
            return struck;
        }

        private boolean strikes(int shot, Field field) {
            int target = shots.targets[shot];
            int player = playerOn(target);
            if (player == NOBODY || player == shots.shooters[shot]) {
                return false;
            }
            if (!field.hasSight(shots.origins[shot], target)) {
                return false;
            }
            if (hits[player] == NEVER) {
                hits[player] = tick;
            }
            return true;
        }

        boolean mayCall() {
            return calls.count < MOST_CALLS;
        }

        int callOut(int player) {
            int number = calls.add(player, cells[player], tick);
            cells[player] = OUT;
            return number;
        }

        boolean hasCall(int call) {
            return call >= 0 && call < calls.count;
        }

        boolean isDisputed(int call) {
            return calls.disputed[call];
        }

        int teamCalled(int call) {
            return calls.players[call] < HOME_PLAYERS ? home : away;
        }

        boolean judge(int call) {
            int player = calls.players[call];
            calls.disputed[call] = true;
            if (hits[player] != NEVER && hits[player] <= calls.ticks[call]) {
                return true;
            }
            int cell = calls.cells[call];
            cells[player] = playerOn(cell) == NOBODY ? cell : NOT_PLACED;
            return false;
        }

        int margin() {
            int margin = 0;
            for (int player = 0; player < PLAYERS; player++) {
                if (cells[player] != OUT && hits[player] == NEVER) {
                    margin += player < HOME_PLAYERS ? 1 : -1;
                }
            }
            return margin;
        }
    }

    /** The shots of a round, in the order in which they were shot. */
    private static final class Shots {
        int count;
        final int[] shooters = new int[MOST_SHOTS];
        final int[] origins = new int[MOST_SHOTS];
        final int[] targets = new int[MOST_SHOTS];
        final int[] arrivals = new int[MOST_SHOTS];

        void add(int shooter, int origin, int target, int arrival) {
            shooters[count] = shooter;
            origins[count] = origin;
            targets[count] = target;
            arrivals[count] = arrival;
            count++;
        }
    }

    /** The calls of the referees in a round, by their numbers. */
    private static final class Calls {
        int count;
        final int[] players = new int[MOST_CALLS];
        final int[] cells = new int[MOST_CALLS];
        final int[] ticks = new int[MOST_CALLS];
        final boolean[] disputed = new boolean[MOST_CALLS];

        int add(int player, int cell, int tick) {
            players[count] = player;
            cells[count] = cell;
            ticks[count] = tick;
            disputed[count] = false;
            count++;
            return count - 1;
        }
    }

    /** What the rounds made of the teams. */
    private static final class Table {
        private final int[] points = new int[TEAMS];
        private final int[] fines = new int[TEAMS];
        private final int[] differences = new int[TEAMS];
        private final int[][] wins = new int[TEAMS][TEAMS];

        int pointsOf(int team) {
            return points[team];
        }

        int finesOf(int team) {
            return fines[team];
        }

        int differenceOf(int team) {
            return differences[team];
        }

        void fine(int team) {
            fines[team]++;
        }

        void enter(int home, int away, int margin) {
            differences[home] += margin;
            differences[away] -= margin;
            if (margin > 0) {
                enterWin(home, away);
            } else if (margin < 0) {
                enterWin(away, home);
            } else {
                points[home] += POINTS_OF_A_DRAW;
                points[away] += POINTS_OF_A_DRAW;
            }
            takePenalties();
        }

        private void enterWin(int winner, int loser) {
            points[winner] += POINTS_OF_A_WIN;
            wins[winner][loser]++;
        }

        private void takePenalties() {
            for (int team = 0; team < TEAMS; team++) {
                if (fines[team] >= FINES_OF_A_PENALTY) {
                    points[team]--;
                    fines[team] -= FINES_OF_A_PENALTY;
                }
            }
        }

        int placeOf(int team) {
            int place = 1;
            for (int other = 0; other < TEAMS; other++) {
                if (other != team && isAhead(other, team)) {
                    place++;
                }
            }
            return place;
        }

        private boolean isAhead(int one, int other) {
            if (points[one] != points[other]) {
                return points[one] > points[other];
            }
            if (wins[one][other] != wins[other][one]) {
                return wins[one][other] > wins[other][one];
            }
            if (differences[one] != differences[other]) {
                return differences[one] > differences[other];
            }
            return one < other;
        }
    }
}
