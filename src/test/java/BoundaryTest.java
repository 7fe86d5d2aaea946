/** The least and the greatest: an empty field and a full one, nobody and everybody, the first tick and the last call. */
public final class BoundaryTest {
    public static void main(String[] args) {
        emptyObjectAnswers();
        fullFieldHidesAll();
        fullFieldHasRoomForNobody();
        lonelyCells();
        lineBetweenTwoCorners();
        longestLines();
        refereeOnABunker();
        bothRefereesOnOneCell();
        roundsWithoutAnything();
        shotsTakeTheirTicks();
        shotsAtAnything();
        shotAndHitAtTheDistance();
        hitOneGoesOn();
        hitInTheLastTickOfAPass();
        passOfFiftyIsFiftyPasses();
        everybodyHitInOneTick();
        everybodyCalledOut();
        everybodyBackOrNotPlaced();
        hitByTheTickOfTheCall();
        standingAtTheEnd();
        finesAroundTwo();
        pointsBelowZero();
        allPlacesAndTheSamePlaces();
        roundsWonAgainstOneAnother();
        lateTicks();
        tableOfManyRounds();
        lastOf512Calls();
        Due.close("BoundaryTest");
    }

    private static PaintballAtlas inRound() {
        PaintballAtlas atlas = new PaintballAtlas();
        atlas.begin(0, 1);
        return atlas;
    }

    private static PaintballAtlas after(String run) {
        return Moments.at(Asked.run(run));
    }

    // ---- the field

    private static void emptyObjectAnswers() {
        PaintballAtlas atlas = new PaintballAtlas();
        for (int cell = 0; cell < 144; cell++) {
            Due.is("empty: sees itself " + cell, atlas.sees(cell, cell), true);
            Due.is("empty: sees the last but " + cell, atlas.sees(cell, 143 - cell), true);
        }
        for (int number = 0; number < 6; number++) {
            Due.is("empty: where " + number, atlas.where(number), -2);
            Due.is("empty: hit " + number, atlas.hit(number), -1);
            Due.is("empty: points " + number, atlas.points(number), 0);
            Due.is("empty: fines " + number, atlas.fines(number), 0);
            Due.is("empty: difference " + number, atlas.difference(number), 0);
            Due.is("empty: place " + number, atlas.place(number), number + 1);
        }
        Due.is("empty: tick", atlas.tick(), -1);
        Due.is("empty: flying", atlas.flying(), 0);
        Due.is("empty: the first bunker", atlas.toggleBunker(0), true);
    }

    private static PaintballAtlas fullField() {
        PaintballAtlas atlas = new PaintballAtlas();
        for (int cell = 0; cell < 144; cell++) {
            Due.is("full: put " + cell, atlas.toggleBunker(cell), true);
        }
        return atlas;
    }

    private static void fullFieldHidesAll() {
        PaintballAtlas atlas = fullField();
        for (int cell = 0; cell < 144; cell++) {
            Due.is("full: view " + cell, atlas.view(cell), 0);
            Due.is("full: a neighbour of " + cell, atlas.sees(cell, (cell + 1) % 144), false);
        }
        Due.is("full: take one", atlas.toggleBunker(66), false);
        Due.is("full but one: its view", atlas.view(66), 1);
        Due.is("full but one: view of its neighbour", atlas.view(67), 0);
        Due.is("full but one: take its neighbour", atlas.toggleBunker(79), false);
        Due.is("full but two: they see one another past two corners", atlas.view(66), 2);
    }

    private static void fullFieldHasRoomForNobody() {
        PaintballAtlas atlas = fullField();
        atlas.begin(0, 1);
        for (int cell = 0; cell < 144; cell++) {
            int on = cell;
            Due.notNow("full: place on " + cell, () -> atlas.move(0, on));
        }
        Due.is("full: a referee goes anywhere", atlas.setReferee(0, 66), 0);
        Due.is("full: not placed", atlas.where(0), -1);
        Due.is("full: all stand", atlas.end(), 0);
    }

    private static void lonelyCells() {
        PaintballAtlas corner = after("toggleBunker 1, toggleBunker 12");
        Due.is("a corner past two corners: the diagonal, itself counted", corner.view(0), 12);
        Due.is("along the diagonal", corner.sees(0, 143), true);
        Due.is("one beside the diagonal", corner.sees(0, 142), false);
        corner.toggleBunker(13);
        Due.is("a corner shut in sees itself", corner.view(0), 1);
        Due.is("it sees itself", corner.sees(0, 0), true);
        corner.toggleBunker(0);
        Due.is("a bunker sees not even itself", corner.view(0), 0);
        PaintballAtlas last = after("toggleBunker 142, toggleBunker 131, toggleBunker 130");
        Due.is("the last corner shut in", last.view(143), 1);
        PaintballAtlas middle = after("toggleBunker 53, toggleBunker 54, toggleBunker 55, toggleBunker 65,"
                + "toggleBunker 67, toggleBunker 77, toggleBunker 78, toggleBunker 79");
        Due.is("eight bunkers around", middle.view(66), 1);
        middle.toggleBunker(79);
        Due.is("seven bunkers around: the diagonal of 5, itself counted", middle.view(66), 6);
    }

    private static void lineBetweenTwoCorners() {
        PaintballAtlas atlas = after("toggleBunker 13, toggleBunker 26");
        Due.is("between corners that touch", atlas.sees(14, 25), true);
        Due.is("and on", atlas.sees(3, 36), true);
        Due.is("the other way", atlas.sees(36, 3), true);
        Due.is("along both", atlas.sees(0, 39), false);
        Due.is("past a corner of one", atlas.sees(12, 1), true);
        Due.is("one column more", atlas.sees(12, 2), false);
    }

    private static void longestLines() {
        PaintballAtlas atlas = after("toggleBunker 13");
        Due.is("it cuts off a sliver of the bunker", atlas.sees(1, 143), false);
        Due.is("it cuts off a sliver on the other side", atlas.sees(12, 143), false);
        Due.is("past it", atlas.sees(2, 143), true);
        Due.is("past it on the other side", atlas.sees(24, 143), true);
        PaintballAtlas edge = after("toggleBunker 11");
        Due.is("from 10 to 12 it leads back along the rows, not over the edge", edge.sees(10, 12), true);
        Due.is("row 0 to its end", edge.sees(0, 11), false);
        Due.is("row 0 but for its end", edge.sees(0, 10), true);
        Due.is("column 11 from its beginning", edge.sees(11, 143), false);
        Due.is("column 11 but for its beginning", edge.sees(23, 143), true);
    }

    private static void refereeOnABunker() {
        PaintballAtlas atlas = after("toggleBunker 0, begin 0 1, move 0 1, move 1 143");
        Due.notNow("the referee 0 is on the bunker 0", () -> atlas.call(0, 0));
        Due.is("the referee 1 sees along", atlas.call(1, 0), 0);
        Due.is("the referee 1 sees its own cell", atlas.call(1, 1), 1);
        Due.is("it leaves the bunker", atlas.setReferee(0, 1), 0);
        Due.is("a wrong call", atlas.dispute(0), false);
        Due.is("the referee 0 sees its own cell", atlas.call(0, 0), 2);
        Due.is("onto the bunker again", atlas.setReferee(0, 0), 1);
    }

    private static void bothRefereesOnOneCell() {
        PaintballAtlas atlas = new PaintballAtlas();
        Due.is("0 to the cell of 1", atlas.setReferee(0, 143), 0);
        Due.is("1 is there too", atlas.setReferee(1, 143), 143);
        Due.is("0 is there still", atlas.setReferee(0, 143), 143);
        Due.is("1 leaves", atlas.setReferee(1, 0), 143);
        Due.is("0 stays", atlas.setReferee(0, 0), 143);
    }

    // ---- a round

    private static void roundsWithoutAnything() {
        PaintballAtlas atlas = new PaintballAtlas();
        for (int home = 0; home < 6; home++) {
            for (int away = 0; away < 6; away++) {
                if (home != away) {
                    atlas.begin(home, away);
                    Due.is("nothing: flying", atlas.flying(), 0);
                    Due.is("nothing: pass", atlas.pass(50), 0);
                    Due.noIndex("nothing: dispute", () -> atlas.dispute(0));
                    Due.is("nothing: end", atlas.end(), 0);
                }
            }
        }
        for (int team = 0; team < 6; team++) {
            Due.is("a point for each round of " + team, atlas.points(team), 10);
            Due.is("no difference " + team, atlas.difference(team), 0);
            Due.is("by the number " + team, atlas.place(team), team + 1);
        }
    }

    // (distance + 3) / 4, from every cell to every other one.
    private static void shotsTakeTheirTicks() {
        int[] due = {0, 1, 1, 1, 1, 2, 2, 2, 2, 3, 3, 3};
        for (int from = 0; from < 144; from++) {
            for (int to = 0; to < 144; to++) {
                int distance = Math.max(Math.abs(from / 12 - to / 12), Math.abs(from % 12 - to % 12));
                PaintballAtlas atlas = inRound();
                atlas.pass(7);
                atlas.move(0, from);
                Asked shoot = new Asked(8, 0, to);
                String comes = distance == 0 ? "IllegalStateException" : String.valueOf(7 + due[distance]);
                Due.same("from " + from + ": " + shoot.written(), shoot.answer(atlas), comes);
                Due.is("on their way from " + from, atlas.flying(), distance == 0 ? 0 : 1);
            }
        }
    }

    private static void shotsAtAnything() {
        PaintballAtlas atlas = after("toggleBunker 2, begin 0 1, move 0 0, move 1 3, move 3 143");
        Due.is("at a bunker", atlas.shoot(0, 2), 1);
        Due.is("at a player of its own team, hidden", atlas.shoot(1, 0), 1);
        Due.is("at an empty cell", atlas.shoot(3, 142), 1);
        Due.is("three on their way", atlas.flying(), 3);
        Due.is("nobody is hit", atlas.pass(1), 0);
        Due.is("none on its way", atlas.flying(), 0);
        Due.is("hidden and not hit", atlas.hit(0), -1);
    }

    private static void shotAndHitAtTheDistance() {
        int[] distances = {1, 4, 5, 8, 9, 11};
        int[] ticks = {1, 1, 2, 2, 3, 3};
        for (int i = 0; i < distances.length; i++) {
            PaintballAtlas atlas = inRound();
            atlas.move(0, 0);
            atlas.move(5, distances[i]);
            atlas.shoot(0, distances[i]);
            for (int tick = 1; tick <= 4; tick++) {
                String at = "distance " + distances[i] + ", tick " + tick;
                Due.is(at + ": hits", atlas.pass(1), tick == ticks[i] ? 1 : 0);
                Due.is(at + ": hit", atlas.hit(5), tick >= ticks[i] ? ticks[i] : -1);
                Due.is(at + ": flying", atlas.flying(), tick >= ticks[i] ? 0 : 1);
            }
        }
    }

    private static void hitOneGoesOn() {
        PaintballAtlas atlas = after("begin 0 1, move 0 0, move 3 1, shoot 0 1, pass 1");
        Due.is("it was hit", atlas.hit(3), 1);
        Due.is("it is in", atlas.where(3), 1);
        Due.is("it moves", atlas.move(3, 2), 1);
        Due.is("it shoots", atlas.shoot(3, 0), 2);
        Due.is("and hits", atlas.pass(1), 1);
        Due.is("the other one", atlas.hit(0), 2);
        Due.is("both were hit", atlas.end(), 0);
    }

    private static void hitInTheLastTickOfAPass() {
        PaintballAtlas atlas = after("begin 0 1, move 0 0, move 3 11, shoot 0 11");
        Due.is("all but the last tick", atlas.pass(2), 0);
        Due.is("on its way", atlas.flying(), 1);
        Due.is("the last tick", atlas.pass(1), 1);
        Due.is("in the tick that the shot named", atlas.hit(3), atlas.tick());
        PaintballAtlas first = after("begin 0 1, move 0 0, move 3 1, shoot 0 1");
        Due.is("the first tick of many", first.pass(50), 1);
        Due.is("hit in the first", first.hit(3), 1);
    }

    private static void passOfFiftyIsFiftyPasses() {
        String begun = "begin 0 1, move 0 0, move 1 1, move 3 11, move 4 5, shoot 0 11, shoot 1 5, shoot 3 0, shoot 4 1";
        PaintballAtlas once = after(begun);
        PaintballAtlas oftener = after(begun);
        int hits = 0;
        for (int tick = 1; tick <= 50; tick++) {
            hits += oftener.pass(1);
        }
        Due.is("hits of 50 ticks", once.pass(50), 4);
        Due.is("hits of 50 passes", hits, 4);
        for (int player = 0; player < 6; player++) {
            Due.is("hit of " + player, once.hit(player), oftener.hit(player));
        }
        Due.is("tick", once.tick(), 50);
        Due.is("tick of passes", oftener.tick(), 50);
    }

    private static void everybodyHitInOneTick() {
        PaintballAtlas atlas = inRound();
        for (int player = 0; player < 6; player++) {
            Due.is("placed " + player, atlas.move(player, player), -1);
        }
        for (int player = 0; player < 6; player++) {
            Due.is("shot of " + player, atlas.shoot(player, player < 5 ? player + 1 : 4), 1);
        }
        Due.is("six on their way", atlas.flying(), 6);
        Due.is("six hits, two of them of 4", atlas.pass(1), 6);
        for (int player = 0; player < 6; player++) {
            Due.is("hit of " + player, atlas.hit(player), player == 0 ? -1 : 1);
        }
        Due.is("one of the home team stands", atlas.end(), 1);
    }

    private static void everybodyCalledOut() {
        PaintballAtlas atlas = Moments.at(Moments.ALL_OUT);
        for (int player = 0; player < 6; player++) {
            int out = player;
            Due.is("out " + player, atlas.where(player), -2);
            Due.notNow("out, move " + player, () -> atlas.move(out, 70));
            Due.notNow("out, shoot " + player, () -> atlas.shoot(out, 70));
            Due.notNow("out, call " + player, () -> atlas.call(0, out));
        }
        Due.is("nobody stands", atlas.end(), 0);
        Due.is("a point for home", atlas.points(4), 1);
        Due.is("a point for away", atlas.points(1), 4);
    }

    private static void everybodyBackOrNotPlaced() {
        PaintballAtlas atlas = Moments.at(Moments.ALL_OUT);
        for (int call = 5; call >= 0; call--) {
            Due.is("wrong " + call, atlas.dispute(call), false);
            Due.is("back " + call, atlas.where(call), call);
        }
        Due.is("called again", atlas.call(0, 5), 6);
        Due.is("and another one", atlas.call(0, 4), 7);
        Due.is("onto the cell of the first", atlas.move(3, 4), 3);
        Due.is("and on", atlas.move(3, 5), 4);
        Due.is("wrong", atlas.dispute(6), false);
        Due.is("its cell is taken", atlas.where(5), -1);
        Due.is("wrong too", atlas.dispute(7), false);
        Due.is("its cell was left again", atlas.where(4), 4);
        Due.is("not placed is standing too", atlas.end(), 0);
    }

    private static void hitByTheTickOfTheCall() {
        String begun = "begin 0 1, move 0 0, move 3 1, pass 5, shoot 0 1";
        Due.is("called a tick before the shot comes", after(begun + ", call 0 3, pass 1").dispute(0), false);
        Due.is("called in its tick", after(begun + ", pass 1, call 0 3").dispute(0), true);
        Due.is("called a tick behind", after(begun + ", pass 2, call 0 3").dispute(0), true);
        PaintballAtlas before = after(begun + ", call 0 3, pass 1, dispute 0");
        Due.is("not hit while it was out", before.hit(3), -1);
        Due.is("no fine", before.fines(1), 0);
        Due.is("the second shot", before.shoot(0, 1), 7);
        Due.is("hits", before.pass(1), 1);
        Due.notNow("and changes nothing of the first call", () -> before.dispute(0));
    }

    // ---- the table

    private static void standingAtTheEnd() {
        String[] outs = {"", ", call 0 3", ", call 0 3, call 0 4", ", call 0 3, call 0 4, call 0 5"};
        for (int out = 0; out <= 3; out++) {
            String placed = "begin 2 5, move 3 3, move 4 4, move 5 5, move 0 0";
            PaintballAtlas atlas = after(placed + outs[out]);
            Due.is("home has more by " + out, atlas.end(), out);
            Due.is("points of home, " + out, atlas.points(2), out == 0 ? 1 : 3);
            Due.is("points of away, " + out, atlas.points(5), out == 0 ? 1 : 0);
            Due.is("difference of home, " + out, atlas.difference(2), out);
            Due.is("difference of away, " + out, atlas.difference(5), -out);
            PaintballAtlas hit = after(placed + ", shoot 0 3, pass 1" + outs[out]);
            Due.is("hit and called is one, " + out, hit.end(), Math.max(out, 1));
        }
        PaintballAtlas away = after("begin 2 5, move 0 0, move 1 1, move 2 2, call 0 0, call 0 1, call 0 2");
        Due.is("none of the home team", away.end(), -3);
        Due.is("3 points for away", away.points(5), 3);
        Due.is("0 points for home", away.points(2), 0);
    }

    // A player of the away team, of the number 3 and on, is hit, called out, and the call disputed.
    private static String finesOfAway(int home, int away, int fines) {
        StringBuilder run = new StringBuilder("begin " + home + " " + away + ", move 0 0");
        for (int i = 0; i < fines; i++) {
            run.append(", move " + (3 + i) + " 1, shoot 0 1, pass 1, call 0 " + (3 + i) + ", dispute " + i);
        }
        return run.append(", end").toString();
    }

    private static void finesAroundTwo() {
        int[] left = {0, 1, 0, 1};
        int[] points = {1, 0, -1, -1};
        for (int fines = 0; fines <= 3; fines++) {
            PaintballAtlas atlas = after(finesOfAway(3, 5, fines));
            Due.is(fines + " fines: left", atlas.fines(5), left[fines]);
            Due.is(fines + " fines: points", atlas.points(5), points[fines]);
            Due.is(fines + " fines: of the other team", atlas.fines(3), 0);
            Due.is(fines + " fines: difference", atlas.difference(5), -fines);
        }
        String four = finesOfAway(3, 5, 3) + "," + finesOfAway(3, 5, 3);
        Due.is("3 and 3 fines: taken 2 and 2", after(four).fines(5), 2);
        PaintballAtlas idle = after(four + ", begin 0 1, end");
        Due.is("taken when others play", idle.fines(5), 0);
        Due.is("and a point each time", idle.points(5), -3);
        PaintballAtlas begun = after(four + ", begin 0 1");
        Due.is("not taken when others begin", begun.fines(5), 2);
        Due.is("nor a point", begun.points(5), -2);
        PaintballAtlas two = after(finesOfAway(3, 5, 1) + "," + finesOfAway(3, 4, 1) + ", begin 5 4, move 0 0, move 3 1,"
                + "shoot 0 1, shoot 3 0, pass 1, call 0 0, call 0 3, dispute 0, dispute 1");
        Due.is("two teams: fines of home", two.fines(5), 2);
        Due.is("two teams: fines of away", two.fines(4), 2);
        Due.is("two teams: end", two.end(), 0);
        Due.is("two teams: points of home", two.points(5), 0);
        Due.is("two teams: points of away", two.points(4), 0);
        Due.is("two teams: fines taken", two.fines(5) + two.fines(4), 0);
    }

    private static void pointsBelowZero() {
        for (int team = 0; team < 6; team++) {
            StringBuilder run = new StringBuilder(finesOfAway((team + 1) % 6, team, 2));
            for (int rounds = 1; rounds <= 4; rounds++) {
                PaintballAtlas atlas = after(run.toString());
                Due.is("fined so often: points of " + team, atlas.points(team), -rounds);
                Due.is("fined so often: difference of " + team, atlas.difference(team), -2 * rounds);
                Due.is("fined so often: place of " + team, atlas.place(team), 6);
                run.append(",").append(finesOfAway((team + 1) % 6, team, 2));
            }
        }
    }

    private static void allPlacesAndTheSamePlaces() {
        PaintballAtlas all = after("begin 5 0, move 3 0, call 0 3, end, begin 4 5, end, begin 4 3, end, begin 4 2, end");
        duePlaces(all, 6, 5, 3, 4, 2, 1);
        String won = ", move 3 0, call 0 3, end";
        PaintballAtlas twoRings = after("begin 0 1" + won + ", begin 1 2" + won + ", begin 2 0" + won
                + ", begin 3 4" + won + ", begin 4 5" + won + ", begin 5 3" + won);
        duePlaces(twoRings, 2, 2, 2, 5, 5, 5);
    }

    private static void duePlaces(PaintballAtlas atlas, int... due) {
        for (int team = 0; team < 6; team++) {
            Due.is("place of " + team, atlas.place(team), due[team]);
        }
    }

    private static void roundsWonAgainstOneAnother() {
        String oneOut = ", move 3 0, call 0 3, end";
        String allOut = ", move 3 0, call 0 3, move 4 0, call 0 4, move 5 0, call 0 5, end";
        String homeOut = ", move 0 0, call 0 0, end";
        PaintballAtlas drawn = after("begin 0 1, end, begin 0 3" + oneOut + ", begin 1 2" + allOut);
        Due.is("a draw is won by none: the greater difference", drawn.place(1), 1);
        Due.is("a draw is won by none: the lesser difference", drawn.place(0), 2);
        PaintballAtlas won = after("begin 1 0" + homeOut + ", begin 1 2" + allOut);
        Due.is("won away, with the lesser difference", won.place(0), 1);
        Due.is("lost at home, with the greater difference", won.place(1), 2);
        PaintballAtlas lower = after("begin 1 0" + oneOut + ", begin 0 3" + oneOut);
        Due.is("won, with the higher number", lower.place(1), 1);
        Due.is("lost, with the lower number", lower.place(0), 2);
        PaintballAtlas fewer = after("begin 0 1" + allOut + ", begin 1 2" + oneOut + ", begin 1 2, end");
        Due.is("lost against it, but with a point more", fewer.place(1), 1);
        Due.is("won against it, but with a point less", fewer.place(0), 2);
    }

    private static void lateTicks() {
        PaintballAtlas atlas = inRound();
        for (int pass = 0; pass < 500; pass++) {
            atlas.pass(50);
        }
        Due.is("behind 500 passes", atlas.tick(), 25000);
        atlas.move(0, 0);
        atlas.move(3, 11);
        Due.is("a late shot", atlas.shoot(0, 11), 25003);
        Due.is("a late hit", atlas.pass(50), 1);
        Due.is("its tick", atlas.hit(3), 25003);
    }

    private static void tableOfManyRounds() {
        PaintballAtlas drawn = new PaintballAtlas();
        for (int round = 0; round < 255; round++) {
            drawn.begin(4, 5);
            drawn.end();
        }
        Due.is("255 rounds: home", drawn.points(4), 255);
        Due.is("255 rounds: away, by the 512th call", drawn.points(5), 255);
        PaintballAtlas won = new PaintballAtlas();
        for (int round = 0; round < 127; round++) {
            won.begin(4, 5);
            won.move(3, 0);
            won.call(0, 3);
            won.end();
        }
        Due.is("127 rounds won: points", won.points(4), 381);
        Due.is("127 rounds won: difference", won.difference(4), 127);
        Due.is("127 rounds lost: difference", won.difference(5), -127);
        Due.is("127 rounds lost: place, by the 512th call", won.place(5), 6);
    }

    private static void lastOf512Calls() {
        PaintballAtlas toggled = new PaintballAtlas();
        for (int call = 1; call <= 512; call++) {
            Due.is("toggle " + call, toggled.toggleBunker(143), call % 2 == 1);
        }
        PaintballAtlas refused = new PaintballAtlas();
        for (int call = 1; call <= 505; call++) {
            Due.notNow("no round " + call, () -> refused.move(0, 0));
        }
        refused.begin(0, 1);
        Due.is("behind 505 refused ones: place", refused.move(0, 0), -1);
        Due.is("behind 505 refused ones: place the other one", refused.move(3, 1), -1);
        Due.is("behind 505 refused ones: shoot", refused.shoot(0, 1), 1);
        Due.is("behind 505 refused ones: pass", refused.pass(1), 1);
        Due.is("behind 505 refused ones: call", refused.call(1, 3), 0);
        Due.is("the 512th call", refused.dispute(0), true);
    }
}
