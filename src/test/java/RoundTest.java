/** Promises 6 to 16: a round. */
public final class RoundTest {
    private static final int[] NO_PLAYERS = {-1, 6, Integer.MIN_VALUE, Integer.MAX_VALUE};
    private static final int[] NO_CELLS = {-1, 144, Integer.MIN_VALUE, Integer.MAX_VALUE};

    public static void main(String[] args) {
        begin();
        beginWrong();
        beginForgetsTheRoundBefore();
        move();
        moveWrong();
        shoot();
        shootOnceInATick();
        shootWrong();
        shootAHundredTimes();
        passHits();
        passMisses();
        passSight();
        passCountsEachHit();
        passWrong();
        call();
        callWrong();
        disputeRight();
        disputeWrongCall();
        disputeHitByTheTickOfTheCall();
        disputeRefused();
        callsUpToTheLimit();
        end();
        endWrong();
        tick();
        where();
        hit();
        flying();
        Due.close("RoundTest");
    }

    private static PaintballAtlas inRound() {
        PaintballAtlas atlas = new PaintballAtlas();
        atlas.begin(0, 1);
        return atlas;
    }

    private static void begin() {
        PaintballAtlas atlas = new PaintballAtlas();
        atlas.begin(5, 0);
        Due.is("begin: tick", atlas.tick(), 0);
        Due.is("begin: flying", atlas.flying(), 0);
        for (int player = 0; player < 6; player++) {
            Due.is("begin: where " + player, atlas.where(player), -1);
            Due.is("begin: hit " + player, atlas.hit(player), -1);
        }
        Due.noIndex("begin: no calls", () -> atlas.dispute(0));
    }

    private static void beginWrong() {
        PaintballAtlas atlas = new PaintballAtlas();
        for (int team : NO_PLAYERS) {
            Due.noIndex("begin " + team + " 0", () -> atlas.begin(team, 0));
            Due.noIndex("begin 5 " + team, () -> atlas.begin(5, team));
            Due.noIndex("begin the same " + team, () -> atlas.begin(team, team));
        }
        Due.badArgument("begin 3 3", () -> atlas.begin(3, 3));
        Due.is("none began", atlas.tick(), -1);
        atlas.begin(1, 2);
        atlas.move(0, 3);
        Due.notNow("begin 1 2 again", () -> atlas.begin(1, 2));
        Due.notNow("begin 3 4 in a round", () -> atlas.begin(3, 4));
        Due.badArgument("begin 4 4 in a round", () -> atlas.begin(4, 4));
        Due.noIndex("begin 6 6 in a round", () -> atlas.begin(6, 6));
        Due.is("the round goes on", atlas.where(0), 3);
        lose(atlas, 3, 0);
        atlas.end();
        Due.is("home won", atlas.points(1), 3);
    }

    private static void beginForgetsTheRoundBefore() {
        PaintballAtlas atlas = inRound();
        atlas.move(0, 0);
        atlas.move(3, 1);
        atlas.move(1, 13);
        atlas.shoot(0, 1);
        atlas.pass(1);
        atlas.shoot(0, 11);
        atlas.call(0, 3);
        atlas.end();
        atlas.begin(2, 3);
        Due.is("again: tick", atlas.tick(), 0);
        Due.is("again: hit", atlas.hit(3), -1);
        Due.is("again: where", atlas.where(0), -1);
        Due.is("again: where of the one called out", atlas.where(3), -1);
        Due.is("again: flying", atlas.flying(), 0);
        Due.noIndex("again: no calls", () -> atlas.dispute(0));
        atlas.move(3, 0);
        atlas.move(4, 11);
        Due.is("again: shot in tick 0", atlas.shoot(3, 143), 3);
        Due.is("again: first call", atlas.call(0, 3), 0);
        Due.is("again: the first call was not disputed", atlas.dispute(0), false);
        Due.is("again: no old shot comes", atlas.pass(10), 0);
    }

    private static void move() {
        PaintballAtlas atlas = inRound();
        Due.is("place on 0", atlas.move(0, 0), -1);
        Due.is("place on 143", atlas.move(5, 143), -1);
        int[] way = {1, 13, 12, 24, 37, 26, 14, 2, 13};
        int before = 0;
        for (int cell : way) {
            Due.is("to " + cell + ", as often as is asked", atlas.move(0, cell), before);
            Due.is("is on " + cell, atlas.where(0), cell);
            before = cell;
        }
        Due.is("the others stay", atlas.where(5), 143);
        Due.is("on the cell that was left", atlas.move(1, 0), -1);
        atlas.move(2, 15);
        atlas.shoot(2, 13);
        atlas.pass(1);
        Due.is("hit", atlas.hit(0), 1);
        Due.is("moves though it was hit", atlas.move(0, 14), 13);
        atlas.call(0, 0);
        Due.is("onto the cell of one called out", atlas.move(2, 14), 15);
    }

    private static void moveWrong() {
        PaintballAtlas atlas = new PaintballAtlas();
        atlas.toggleBunker(18);
        Due.notNow("no round", () -> atlas.move(0, 0));
        Due.noIndex("no round, no cell", () -> atlas.move(0, 144));
        atlas.begin(0, 1);
        for (int player : NO_PLAYERS) {
            Due.noIndex("player " + player, () -> atlas.move(player, 0));
        }
        for (int cell : NO_CELLS) {
            Due.noIndex("cell " + cell, () -> atlas.move(0, cell));
        }
        Due.notNow("placed on a bunker", () -> atlas.move(0, 18));
        Due.is("not placed then", atlas.where(0), -1);
        atlas.move(0, 17);
        int[] far = {17, 15, 19, 41, 40, 42, 35, 12, 143, 0, 3, 23};
        for (int cell : far) {
            Due.notNow("no neighbour " + cell, () -> atlas.move(0, cell));
        }
        Due.notNow("onto a bunker", () -> atlas.move(0, 18));
        atlas.move(3, 16);
        Due.notNow("onto a player", () -> atlas.move(0, 16));
        Due.notNow("placed on a player", () -> atlas.move(4, 17));
        Due.is("stays", atlas.where(0), 17);
        Due.is("not placed still", atlas.where(4), -1);
        atlas.move(1, 12);
        Due.notNow("over the edge to the row before", () -> atlas.move(1, 11));
        atlas.move(2, 0);
        Due.notNow("no neighbour of the cell 0", () -> atlas.move(2, 2));
        Due.notNow("no neighbour of the cell 0, two rows on", () -> atlas.move(2, 24));
        atlas.call(0, 0);
        Due.notNow("out", () -> atlas.move(0, 17));
        Due.is("out still", atlas.where(0), -2);
        atlas.end();
        Due.notNow("behind the round", () -> atlas.move(1, 13));
    }

    private static void shoot() {
        for (int distance = 1; distance <= 11; distance++) {
            PaintballAtlas atlas = inRound();
            atlas.move(0, 0);
            atlas.move(1, 143);
            int due = distance <= 4 ? 1 : distance <= 8 ? 2 : 3;
            Due.is("along " + distance, atlas.shoot(0, distance), due);
            Due.is("up " + distance, atlas.shoot(1, 143 - 12 * distance), due);
            atlas.pass(4);
            Due.is("aslant " + distance, atlas.shoot(0, 13 * distance), 4 + due);
            Due.is("more columns than rows " + distance, atlas.shoot(1, 143 - distance - 12 * (distance / 2)), 4 + due);
            atlas.pass(1);
            Due.is("more rows than columns " + distance, atlas.shoot(0, 12 * distance + distance / 2), 5 + due);
        }
    }

    private static void shootOnceInATick() {
        PaintballAtlas atlas = inRound();
        atlas.move(0, 0);
        atlas.move(1, 50);
        atlas.shoot(0, 5);
        Due.notNow("again in this tick", () -> atlas.shoot(0, 6));
        atlas.move(0, 1);
        Due.notNow("again from another cell", () -> atlas.shoot(0, 5));
        Due.is("another player", atlas.shoot(1, 49), 1);
        atlas.call(0, 0);
        atlas.dispute(0);
        Due.notNow("again behind a wrong call", () -> atlas.shoot(0, 5));
        Due.is("one of each is on its way", atlas.flying(), 2);
        atlas.pass(1);
        Due.is("in the next tick", atlas.shoot(0, 5), 2);
        Due.notNow("again in the next tick", () -> atlas.shoot(0, 5));
    }

    private static void shootWrong() {
        PaintballAtlas atlas = new PaintballAtlas();
        Due.notNow("no round", () -> atlas.shoot(0, 0));
        Due.noIndex("no round, no player", () -> atlas.shoot(6, 0));
        atlas.begin(0, 1);
        for (int player : NO_PLAYERS) {
            Due.noIndex("player " + player, () -> atlas.shoot(player, 0));
        }
        for (int cell : NO_CELLS) {
            Due.noIndex("cell " + cell, () -> atlas.shoot(0, cell));
        }
        Due.notNow("not placed", () -> atlas.shoot(0, 0));
        atlas.move(0, 8);
        Due.notNow("distance 0", () -> atlas.shoot(0, 8));
        Due.is("none is on its way", atlas.flying(), 0);
        Due.is("it has not shot yet", atlas.shoot(0, 7), 1);
        atlas.pass(1);
        atlas.call(0, 0);
        Due.notNow("out", () -> atlas.shoot(0, 7));
        Due.noIndex("out, no cell", () -> atlas.shoot(0, -1));
        atlas.end();
        Due.notNow("behind the round", () -> atlas.shoot(0, 7));
    }

    private static void shootAHundredTimes() {
        PaintballAtlas atlas = inRound();
        for (int player = 0; player < 5; player++) {
            atlas.move(player, 12 * player);
        }
        for (int tick = 0; tick < 20; tick++) {
            for (int player = 0; player < 5; player++) {
                Due.is("shot at " + tick, atlas.shoot(player, 12 * player + 11), tick + 3);
            }
            if (tick == 19) {
                atlas.move(5, 60);
                Due.notNow("101st, in the same tick", () -> atlas.shoot(5, 61));
            }
            atlas.pass(1);
        }
        Due.notNow("101st", () -> atlas.shoot(0, 1));
        Due.noIndex("101st, no cell", () -> atlas.shoot(0, 144));
        Due.is("the last ones are on their way", atlas.flying(), 10);
        atlas.pass(2);
        Due.is("all have come", atlas.flying(), 0);
        Due.notNow("still the 101st", () -> atlas.shoot(0, 1));
        atlas.end();
        atlas.begin(0, 1);
        atlas.move(0, 0);
        Due.is("another round, other shots", atlas.shoot(0, 1), 1);
    }

    private static void passHits() {
        PaintballAtlas atlas = inRound();
        atlas.move(0, 0);
        atlas.move(1, 5);
        atlas.move(3, 132);
        atlas.shoot(0, 132);
        atlas.shoot(3, 5);
        Due.is("too early", atlas.pass(2), 0);
        Due.is("both come", atlas.pass(1), 2);
        Due.is("hit of the other team", atlas.hit(3), 3);
        Due.is("hit of the home team", atlas.hit(1), 3);
        Due.is("the shooter is not hit", atlas.hit(0), -1);
        Due.is("a hit player is in", atlas.where(3), 132);
        Due.is("nothing more comes", atlas.pass(50), 0);
        Due.is("own team", atlas.shoot(0, 5), 55);
        Due.is("by a longer pass", atlas.pass(50), 1);
        Due.is("the first hit stays", atlas.hit(1), 3);

        PaintballAtlas later = inRound();
        later.move(0, 0);
        later.move(3, 3);
        later.shoot(0, 11);
        later.call(0, 0);
        for (int cell = 4; cell <= 11; cell++) {
            later.move(3, cell);
        }
        Due.is("a shooter who is out takes nothing back", later.pass(3), 1);
        Due.is("hit where it walked to", later.hit(3), 3);
    }

    private static void passMisses() {
        PaintballAtlas atlas = inRound();
        atlas.move(0, 0);
        atlas.move(3, 11);
        atlas.shoot(0, 11);
        atlas.pass(2);
        atlas.move(3, 10);
        Due.is("it has left the cell", atlas.pass(1), 0);
        atlas.move(3, 11);
        Due.is("it is back too late", atlas.pass(5), 0);
        atlas.shoot(0, 1);
        atlas.move(0, 1);
        Due.is("the shooter itself", atlas.pass(1), 0);
        Due.is("the shooter is not hit", atlas.hit(0), -1);
        atlas.shoot(0, 11);
        atlas.call(0, 3);
        Due.is("it is out", atlas.pass(3), 0);
        Due.is("out and not hit", atlas.hit(3), -1);
        atlas.shoot(0, 9);
        Due.is("nobody stands there", atlas.pass(3), 0);
    }

    private static void passSight() {
        PaintballAtlas atlas = new PaintballAtlas();
        atlas.toggleBunker(1);
        atlas.begin(0, 1);
        atlas.move(0, 0);
        atlas.move(3, 2);
        atlas.shoot(0, 2);
        Due.is("a bunker hides it", atlas.pass(1), 0);
        Due.is("hidden and not hit", atlas.hit(3), -1);
        atlas.shoot(0, 2);
        atlas.move(0, 12);
        Due.is("the cell of the shot counts, not the shooter's now", atlas.pass(1), 0);
        atlas.shoot(0, 2);
        atlas.move(0, 0);
        Due.is("seen from the cell of the shot", atlas.pass(1), 0);
        atlas.move(0, 12);
        atlas.move(0, 13);
        atlas.shoot(0, 2);
        atlas.move(0, 0);
        Due.is("past the corner", atlas.pass(1), 1);
        Due.is("hit then", atlas.hit(3), 4);
    }

    private static void passCountsEachHit() {
        PaintballAtlas atlas = inRound();
        atlas.move(0, 0);
        atlas.move(1, 24);
        atlas.move(3, 12);
        atlas.move(4, 13);
        atlas.shoot(0, 12);
        atlas.shoot(1, 12);
        atlas.shoot(4, 12);
        atlas.shoot(3, 13);
        Due.is("three at one player, one at another", atlas.pass(1), 4);
        Due.is("hit of 3", atlas.hit(3), 1);
        Due.is("hit of 4", atlas.hit(4), 1);
        atlas.shoot(0, 12);
        atlas.pass(1);
        atlas.shoot(0, 12);
        Due.is("a player who was hit before", atlas.pass(1), 1);
        Due.is("first hit of 3", atlas.hit(3), 1);
        atlas.move(2, 143);
        atlas.move(5, 137);
        atlas.shoot(2, 132);
        atlas.shoot(5, 143);
        atlas.shoot(4, 12);
        Due.is("in several ticks of one pass", atlas.pass(4), 2);
        Due.is("in its own tick", atlas.hit(2), 5);
    }

    private static void passWrong() {
        PaintballAtlas atlas = new PaintballAtlas();
        int[] wrong = {0, -1, 51, Integer.MIN_VALUE, Integer.MAX_VALUE};
        for (int ticks : wrong) {
            Due.badArgument("no round, pass " + ticks, () -> atlas.pass(ticks));
        }
        Due.notNow("no round, pass 1", () -> atlas.pass(1));
        Due.notNow("no round, pass 50", () -> atlas.pass(50));
        atlas.begin(0, 1);
        for (int ticks : wrong) {
            Due.badArgument("pass " + ticks, () -> atlas.pass(ticks));
        }
        Due.is("no tick has passed", atlas.tick(), 0);
        atlas.pass(50);
        Due.is("50 ticks have passed", atlas.tick(), 50);
        atlas.end();
        Due.notNow("behind the round", () -> atlas.pass(1));
    }

    private static void call() {
        PaintballAtlas atlas = inRound();
        for (int player = 0; player < 6; player++) {
            atlas.move(player, 20 + player);
        }
        for (int player = 0; player < 6; player++) {
            Due.is("call of " + player, atlas.call(player % 2, player), player);
            Due.is("out " + player, atlas.where(player), -2);
        }
        atlas.end();
        atlas.begin(0, 1);
        atlas.move(2, 0);
        Due.is("on the cell of the referee", atlas.call(0, 2), 0);
    }

    private static void callWrong() {
        PaintballAtlas atlas = new PaintballAtlas();
        atlas.toggleBunker(13);
        Due.notNow("no round", () -> atlas.call(0, 0));
        Due.noIndex("no round, no player", () -> atlas.call(0, 6));
        atlas.begin(0, 1);
        for (int player : NO_PLAYERS) {
            Due.noIndex("player " + player, () -> atlas.call(0, player));
        }
        int[] noReferees = {-1, 2, Integer.MIN_VALUE, Integer.MAX_VALUE};
        for (int referee : noReferees) {
            Due.noIndex("referee " + referee, () -> atlas.call(referee, 0));
        }
        Due.notNow("not placed", () -> atlas.call(0, 0));
        atlas.move(0, 26);
        Due.notNow("0 does not see it", () -> atlas.call(0, 0));
        Due.is("it is in", atlas.where(0), 26);
        Due.is("1 sees it: the first call", atlas.call(1, 0), 0);
        Due.notNow("it is out", () -> atlas.call(1, 0));
        atlas.setReferee(0, 13);
        atlas.move(1, 14);
        Due.notNow("a referee in a bunker sees nobody", () -> atlas.call(0, 1));
        Due.is("the second call", atlas.call(1, 1), 1);
        atlas.end();
        Due.notNow("behind the round", () -> atlas.call(1, 2));
    }

    private static void disputeRight() {
        PaintballAtlas atlas = new PaintballAtlas();
        atlas.begin(4, 2);
        atlas.move(0, 0);
        atlas.move(3, 1);
        atlas.shoot(0, 1);
        atlas.shoot(3, 0);
        atlas.pass(1);
        Due.is("call of 3", atlas.call(0, 3), 0);
        Due.is("call of 0", atlas.call(0, 0), 1);
        Due.is("no fines yet", atlas.fines(2) + atlas.fines(4), 0);
        Due.is("right, away", atlas.dispute(0), true);
        Due.is("fine of the away team", atlas.fines(2), 1);
        Due.is("none of the home team", atlas.fines(4), 0);
        Due.is("right, home", atlas.dispute(1), true);
        Due.is("fine of the home team", atlas.fines(4), 1);
        Due.is("out it stays", atlas.where(3), -2);
        Due.is("its hit stays", atlas.hit(3), 1);
        Due.notNow("it stays out", () -> atlas.move(3, 1));
    }

    private static void disputeWrongCall() {
        PaintballAtlas atlas = inRound();
        atlas.move(0, 40);
        atlas.move(3, 50);
        atlas.call(0, 0);
        atlas.call(0, 3);
        Due.is("wrong", atlas.dispute(0), false);
        Due.is("back on its cell", atlas.where(0), 40);
        Due.is("the other one is out", atlas.where(3), -2);
        atlas.move(4, 50);
        Due.is("wrong, and its cell is taken", atlas.dispute(1), false);
        Due.is("in and not placed", atlas.where(3), -1);
        Due.is("the other one stays", atlas.where(4), 50);
        Due.is("no fine for 0", atlas.fines(0), 0);
        Due.is("no fine for 1", atlas.fines(1), 0);
        Due.is("it is placed anywhere", atlas.move(3, 143), -1);
        Due.is("called again", atlas.call(1, 3), 2);
        Due.is("wrong again", atlas.dispute(2), false);
        Due.is("back again", atlas.where(3), 143);
    }

    private static void disputeHitByTheTickOfTheCall() {
        PaintballAtlas atlas = inRound();
        atlas.move(0, 0);
        atlas.move(3, 1);
        atlas.move(4, 13);
        atlas.shoot(0, 1);
        atlas.call(0, 3);
        atlas.pass(1);
        Due.is("the shot came behind the call", atlas.dispute(0), false);
        Due.is("back", atlas.where(3), 1);
        atlas.shoot(0, 1);
        atlas.pass(1);
        Due.is("called in the tick of the hit", atlas.call(0, 3), 1);
        atlas.pass(3);
        Due.is("right, disputed later", atlas.dispute(1), true);
        atlas.shoot(0, 13);
        atlas.pass(7);
        atlas.move(4, 14);
        Due.is("called long behind the hit", atlas.call(0, 4), 2);
        Due.is("right", atlas.dispute(2), true);
        Due.is("two fines", atlas.fines(1), 2);
    }

    private static void disputeRefused() {
        PaintballAtlas atlas = new PaintballAtlas();
        Due.noIndex("no round", () -> atlas.dispute(0));
        atlas.begin(0, 1);
        Due.noIndex("no call yet", () -> atlas.dispute(0));
        atlas.move(0, 0);
        atlas.move(3, 1);
        atlas.shoot(0, 1);
        atlas.pass(1);
        atlas.call(0, 0);
        atlas.call(0, 3);
        int[] wrong = {-1, 2, 511, 512, Integer.MIN_VALUE, Integer.MAX_VALUE};
        for (int call : wrong) {
            Due.noIndex("call " + call, () -> atlas.dispute(call));
        }
        atlas.dispute(0);
        atlas.dispute(1);
        Due.notNow("disputed, and wrong", () -> atlas.dispute(0));
        Due.notNow("disputed, and right", () -> atlas.dispute(1));
        Due.is("one fine", atlas.fines(1), 1);
        Due.is("it is in still", atlas.where(0), 0);
        atlas.call(0, 0);
        Due.notNow("an old call is no new one", () -> atlas.dispute(0));
        Due.is("it is out", atlas.where(0), -2);
        atlas.end();
        Due.noIndex("behind the round", () -> atlas.dispute(0));
        Due.noIndex("behind the round, not disputed there", () -> atlas.dispute(2));
    }

    private static void callsUpToTheLimit() {
        PaintballAtlas atlas = inRound();
        atlas.move(0, 0);
        for (int call = 0; call < 254; call++) {
            Due.is("call", atlas.call(0, 0), call);
            Due.is("dispute of " + call, atlas.dispute(call), false);
        }
        Due.is("255th call", atlas.call(1, 0), 254);
        Due.is("its dispute", atlas.dispute(254), false);
    }

    private static void end() {
        PaintballAtlas atlas = inRound();
        Due.is("none was placed: all stand", atlas.end(), 0);
        Due.is("a point for home", atlas.points(0), 1);
        Due.is("a point for away", atlas.points(1), 1);
        atlas.begin(2, 3);
        lose(atlas, 3, 7);
        lose(atlas, 4, 8);
        lose(atlas, 0, 9);
        Due.is("out is not standing", atlas.end(), 1);
        Due.is("3 points for home", atlas.points(2), 3);
        Due.is("0 points for away", atlas.points(3), 0);
        atlas.begin(2, 3);
        atlas.move(0, 0);
        atlas.move(1, 1);
        atlas.move(3, 12);
        atlas.shoot(3, 0);
        atlas.pass(1);
        atlas.shoot(3, 1);
        atlas.pass(1);
        Due.is("a hit one who is in does not stand", atlas.end(), -2);
        Due.is("3 points for away", atlas.points(3), 3);
        Due.is("no more for home", atlas.points(2), 3);
        atlas.begin(4, 5);
        lose(atlas, 1, 30);
        lose(atlas, 2, 31);
        atlas.dispute(1);
        Due.is("in again is standing, out and not disputed not", atlas.end(), -1);
        atlas.begin(4, 5);
        lose(atlas, 3, 30);
        lose(atlas, 4, 31);
        lose(atlas, 5, 32);
        Due.is("none of them stands", atlas.end(), 3);
        atlas.begin(4, 5);
        atlas.move(0, 0);
        atlas.move(3, 11);
        atlas.shoot(0, 11);
        atlas.pass(2);
        Due.is("a shot that has not come hits nobody", atlas.end(), 0);
    }

    private static void endWrong() {
        PaintballAtlas atlas = new PaintballAtlas();
        Due.notNow("no round", () -> atlas.end());
        atlas.begin(0, 1);
        atlas.end();
        Due.notNow("ended", () -> atlas.end());
        Due.is("counted once", atlas.points(0), 1);
    }

    private static void tick() {
        PaintballAtlas atlas = new PaintballAtlas();
        Due.is("no round", atlas.tick(), -1);
        atlas.begin(0, 1);
        Due.is("begun", atlas.tick(), 0);
        atlas.pass(1);
        Due.is("one", atlas.tick(), 1);
        atlas.pass(50);
        atlas.pass(7);
        Due.is("all together", atlas.tick(), 58);
        atlas.move(0, 0);
        atlas.shoot(0, 1);
        Due.is("only pass lets ticks pass", atlas.tick(), 58);
        atlas.end();
        Due.is("ended", atlas.tick(), -1);
    }

    private static void where() {
        PaintballAtlas atlas = new PaintballAtlas();
        for (int player : NO_PLAYERS) {
            Due.noIndex("where " + player, () -> atlas.where(player));
        }
        Due.is("no round", atlas.where(5), -2);
        atlas.begin(0, 1);
        Due.is("not placed", atlas.where(5), -1);
        atlas.move(5, 0);
        Due.is("placed", atlas.where(5), 0);
        atlas.move(4, 143);
        Due.is("placed on the last cell", atlas.where(4), 143);
        atlas.call(0, 5);
        Due.is("out", atlas.where(5), -2);
        atlas.end();
        Due.is("ended", atlas.where(4), -2);
        Due.is("ended, not placed before", atlas.where(0), -2);
        for (int player : NO_PLAYERS) {
            Due.noIndex("ended, where " + player, () -> atlas.where(player));
        }
    }

    private static void hit() {
        PaintballAtlas atlas = new PaintballAtlas();
        for (int player : NO_PLAYERS) {
            Due.noIndex("hit " + player, () -> atlas.hit(player));
        }
        Due.is("no round", atlas.hit(0), -1);
        atlas.begin(0, 1);
        Due.is("begun", atlas.hit(0), -1);
        atlas.move(0, 0);
        atlas.move(1, 1);
        atlas.pass(9);
        atlas.shoot(1, 0);
        Due.is("on its way", atlas.hit(0), -1);
        atlas.pass(3);
        Due.is("hit", atlas.hit(0), 10);
        atlas.call(0, 0);
        Due.is("out", atlas.hit(0), 10);
        atlas.end();
        Due.is("ended", atlas.hit(0), -1);
    }

    private static void flying() {
        PaintballAtlas atlas = new PaintballAtlas();
        Due.is("no round", atlas.flying(), 0);
        atlas.begin(0, 1);
        atlas.move(0, 0);
        atlas.move(1, 12);
        atlas.move(2, 24);
        atlas.shoot(0, 4);
        atlas.shoot(1, 20);
        atlas.shoot(2, 35);
        Due.is("three", atlas.flying(), 3);
        atlas.pass(1);
        Due.is("the nearest has come", atlas.flying(), 2);
        atlas.call(0, 2);
        Due.is("one whose shooter is out", atlas.flying(), 2);
        atlas.pass(1);
        Due.is("the second has come", atlas.flying(), 1);
        atlas.shoot(0, 11);
        Due.is("one more", atlas.flying(), 2);
        atlas.end();
        Due.is("ended", atlas.flying(), 0);
        atlas.begin(0, 1);
        Due.is("begun again", atlas.flying(), 0);
    }

    // Without bunkers the referees see every cell.
    private static void lose(PaintballAtlas atlas, int player, int cell) {
        atlas.move(player, cell);
        atlas.call(0, player);
    }
}
