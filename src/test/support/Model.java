import java.util.ArrayList;
import java.util.List;

/** A second program for the same document, kept as near to its words as can be; slow, and for tests alone. */
final class Model {
    private static final class Player {
        boolean in = true;
        Integer cell;
        Integer hit;
        Integer shotIn;
    }

    private static final class Shot {
        Player shooter;
        int from;
        int to;
        int comes;
    }

    private static final class Called {
        Player player;
        int team;
        int cell;
        int tick;
        boolean disputed;
    }

    private static final class Played {
        int winner;
        int loser;
    }

    private final List<Integer> bunkers = new ArrayList<>();
    private final int[] referees = {0, 143};
    private final int[] points = new int[6];
    private final int[] fines = new int[6];
    private final int[] differences = new int[6];
    private final List<Played> won = new ArrayList<>();

    private boolean playing = false;
    private int home;
    private int away;
    private int tick;
    private List<Player> players = new ArrayList<>();
    private List<Shot> shots = new ArrayList<>();
    private List<Called> calls = new ArrayList<>();

    /** The answer to a call of the face by its number in the document, or the exception that is due. */
    long answer(int face, int first, int second) {
        switch (face) {
            case 2: return toggleBunker(first) ? 1 : 0;
            case 3: index(first, 144); index(second, 144); return sees(first, second) ? 1 : 0;
            case 4: return view(first);
            case 5: return setReferee(first, second);
            case 6: begin(first, second); return 0;
            case 7: return move(first, second);
            case 8: return shoot(first, second);
            case 9: return pass(first);
            case 10: return call(first, second);
            case 11: return dispute(first) ? 1 : 0;
            case 12: return end();
            case 13: return playing ? tick : -1;
            case 14: return where(first);
            case 15: return hit(first);
            case 16: return flying();
            case 17: index(first, 6); return points[first];
            case 18: index(first, 6); return fines[first];
            case 19: index(first, 6); return differences[first];
            default: return place(first);
        }
    }

    private static void index(int given, int end) {
        if (given < 0 || given >= end) {
            throw new IndexOutOfBoundsException();
        }
    }

    private static void state(boolean possible) {
        if (!possible) {
            throw new IllegalStateException();
        }
    }

    private static void argument(boolean inRange) {
        if (!inRange) {
            throw new IllegalArgumentException();
        }
    }

    private static int distance(int one, int other) {
        return Math.max(Math.abs(one / 12 - other / 12), Math.abs(one % 12 - other % 12));
    }

    private boolean toggleBunker(int cell) {
        index(cell, 144);
        state(!playing);
        if (!bunkers.remove(Integer.valueOf(cell))) {
            bunkers.add(cell);
        }
        return bunkers.contains(cell);
    }

    private boolean sees(int one, int other) {
        for (int bunker : bunkers) {
            if (Clip.enters(one, other, bunker)) {
                return false;
            }
        }
        return true;
    }

    private int view(int cell) {
        index(cell, 144);
        int seen = 0;
        for (int other = 0; other < 144; other++) {
            seen += sees(other, cell) ? 1 : 0;
        }
        return seen;
    }

    private int setReferee(int referee, int cell) {
        index(referee, 2);
        index(cell, 144);
        int before = referees[referee];
        referees[referee] = cell;
        return before;
    }

    private void begin(int homeTeam, int awayTeam) {
        index(homeTeam, 6);
        index(awayTeam, 6);
        argument(homeTeam != awayTeam);
        state(!playing);
        playing = true;
        home = homeTeam;
        away = awayTeam;
        tick = 0;
        shots = new ArrayList<>();
        calls = new ArrayList<>();
        players = new ArrayList<>();
        for (int i = 0; i < 6; i++) {
            players.add(new Player());
        }
    }

    private Player standingOn(int cell) {
        for (Player player : players) {
            if (player.in && player.cell != null && player.cell == cell) {
                return player;
            }
        }
        return null;
    }

    private int move(int number, int cell) {
        index(number, 6);
        index(cell, 144);
        state(playing);
        Player player = players.get(number);
        state(player.in);
        state(player.cell == null || distance(player.cell, cell) == 1);
        state(!bunkers.contains(cell) && standingOn(cell) == null);
        int before = player.cell == null ? -1 : player.cell;
        player.cell = cell;
        return before;
    }

    private int shoot(int number, int cell) {
        index(number, 6);
        index(cell, 144);
        state(playing);
        Player player = players.get(number);
        state(player.in && player.cell != null);
        state(player.shotIn == null || player.shotIn != tick);
        state(distance(player.cell, cell) > 0);
        state(shots.size() < 100);
        Shot shot = new Shot();
        shot.shooter = player;
        shot.from = player.cell;
        shot.to = cell;
        shot.comes = tick + (distance(player.cell, cell) + 3) / 4;
        shots.add(shot);
        player.shotIn = tick;
        return shot.comes;
    }

    private int pass(int ticks) {
        argument(ticks >= 1 && ticks <= 50);
        state(playing);
        int hits = 0;
        for (int end = tick + ticks; tick < end;) {
            tick++;
            for (Shot shot : shots) {
                Player player = standingOn(shot.to);
                if (shot.comes == tick && player != null && player != shot.shooter && sees(shot.from, shot.to)) {
                    hits++;
                    player.hit = player.hit == null ? tick : player.hit;
                }
            }
        }
        return hits;
    }

    private int call(int referee, int number) {
        index(referee, 2);
        index(number, 6);
        state(playing);
        Player player = players.get(number);
        state(player.in && player.cell != null && sees(player.cell, referees[referee]));
        Called called = new Called();
        called.player = player;
        called.team = number < 3 ? home : away;
        called.cell = player.cell;
        called.tick = tick;
        calls.add(called);
        player.in = false;
        player.cell = null;
        return calls.size() - 1;
    }

    private boolean dispute(int number) {
        index(number, playing ? calls.size() : 0);
        Called called = calls.get(number);
        state(!called.disputed);
        called.disputed = true;
        if (called.player.hit != null && called.player.hit <= called.tick) {
            fines[called.team]++;
            return true;
        }
        called.player.cell = standingOn(called.cell) == null ? called.cell : null;
        called.player.in = true;
        return false;
    }

    private int end() {
        state(playing);
        int[] standing = new int[2];
        for (int i = 0; i < 6; i++) {
            Player player = players.get(i);
            standing[i / 3] += player.in && player.hit == null ? 1 : 0;
        }
        int more = standing[0] - standing[1];
        points[home] += more > 0 ? 3 : more == 0 ? 1 : 0;
        points[away] += more < 0 ? 3 : more == 0 ? 1 : 0;
        differences[home] += more;
        differences[away] -= more;
        if (more != 0) {
            Played played = new Played();
            played.winner = more > 0 ? home : away;
            played.loser = more > 0 ? away : home;
            won.add(played);
        }
        for (int team = 0; team < 6; team++) {
            if (fines[team] >= 2) {
                points[team] -= 1;
                fines[team] -= 2;
            }
        }
        playing = false;
        return more;
    }

    private int where(int number) {
        index(number, 6);
        if (!playing || !players.get(number).in) {
            return -2;
        }
        Player player = players.get(number);
        return player.cell == null ? -1 : player.cell;
    }

    private int hit(int number) {
        index(number, 6);
        return !playing || players.get(number).hit == null ? -1 : players.get(number).hit;
    }

    private int flying() {
        int flying = 0;
        for (Shot shot : shots) {
            flying += playing && shot.comes > tick ? 1 : 0;
        }
        return flying;
    }

    private int wonAgainst(int team, int other) {
        int count = 0;
        for (Played played : won) {
            count += played.winner == team && played.loser == other ? 1 : 0;
        }
        return count;
    }

    private int place(int team) {
        index(team, 6);
        int place = 1;
        for (int other = 0; other < 6; other++) {
            int[] compared = {
                points[other] - points[team],
                wonAgainst(other, team) - wonAgainst(team, other),
                differences[other] - differences[team],
                team - other,
            };
            int first = 0;
            while (first < 3 && compared[first] == 0) {
                first++;
            }
            place += compared[first] > 0 ? 1 : 0;
        }
        return place;
    }
}
