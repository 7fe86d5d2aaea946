/**
 * Each sentence of the document that begins with "Throws", each of its cases by itself: the call that is refused, the
 * nearest one that is not, and that the refused one changes nothing. Then which exception goes first.
 */
public final class RefusalTest {
    private static final String NO_INDEX = "IndexOutOfBoundsException";
    private static final String BAD_ARGUMENT = "IllegalArgumentException";
    private static final String NOT_NOW = "IllegalStateException";

    private static final String LEAST = " " + Integer.MIN_VALUE;
    private static final String MOST = " " + Integer.MAX_VALUE;

    public static void main(String[] args) {
        momentsAreAsTold();
        toggleBunker();
        sees();
        view();
        setReferee();
        begin();
        moveNoIndex();
        moveNotNow();
        moveNoNeighbour();
        shootNoIndex();
        shootNotNow();
        shootInOneTick();
        pass();
        callNoIndex();
        callNotNow();
        dispute();
        end();
        whereAndHit();
        table();
        indexGoesFirst();
        argumentGoesBeforeMoment();
        Due.close("RefusalTest");
    }

    private static void refused(Asked[] moment, String written, String due) {
        Asked call = Asked.of(written);
        Due.same(written, call.answer(Moments.at(moment)), due);
        Moments.dueUnchanged(moment, call);
    }

    private static void answered(Asked[] moment, String written, long due) {
        Due.same(written, Asked.of(written).answer(Moments.at(moment)), String.valueOf(due));
    }

    private static Asked[] then(Asked[] moment, String written) {
        return Moments.joined(moment, Asked.run(written));
    }

    // The numbers next to those that are there, and the farthest ones.
    private static void noIndexOutside(Asked[] moment, String before, int end, String behind) {
        refused(moment, before + " -1" + behind, NO_INDEX);
        refused(moment, before + " " + end + behind, NO_INDEX);
        refused(moment, before + LEAST + behind, NO_INDEX);
        refused(moment, before + MOST + behind, NO_INDEX);
    }

    private static void momentsAreAsTold() {
        int[] where = {0, 24, -1, -2, -2, 143};
        int[] hit = {-1, -1, -1, 1, -1, -1};
        int[] places = {2, 3, 4, 5, 6, 1};
        PaintballAtlas playing = Moments.at(Moments.PLAYING);
        for (int number = 0; number < 6; number++) {
            Due.is("playing: where " + number, playing.where(number), where[number]);
            Due.is("playing: hit " + number, playing.hit(number), hit[number]);
            Due.is("playing: fines " + number, playing.fines(number), number == 1 ? 1 : 0);
        }
        Due.is("playing: tick", playing.tick(), 1);
        Due.is("playing: flying", playing.flying(), 2);
        Due.is("playing: place 0, by the round won", playing.place(0), 1);
        Due.is("playing: place 1, by the round lost", playing.place(1), 2);
        Due.is("playing: difference 0", playing.difference(0), 1);
        Due.is("playing: difference 1", playing.difference(1), 2);
        PaintballAtlas shot = Moments.at(Moments.SHOT);
        Due.is("shot: tick", shot.tick(), 19);
        Due.is("shot: flying", shot.flying(), 15);
        for (int player = 0; player < 6; player++) {
            Due.is("shot: where " + player, shot.where(player), 12 * player);
            Due.is("all out: where " + player, Moments.at(Moments.ALL_OUT).where(player), -2);
        }
        Due.is("ended: margin", Moments.at(Moments.PLAYING).end(), 2);
        Due.is("ended: points of 4", Moments.at(Moments.ENDED).points(4), 3);
    }

    private static void toggleBunker() {
        noIndexOutside(Moments.FIELD, "toggleBunker", 144, "");
        answered(Moments.FIELD, "toggleBunker 0", 1);
        answered(Moments.FIELD, "toggleBunker 143", 1);
        Asked[][] inRound = {Moments.BEGUN, Moments.PLAYING, Moments.SHOT, Moments.ALL_OUT};
        for (Asked[] moment : inRound) {
            refused(moment, "toggleBunker 77", NOT_NOW);
            refused(moment, "toggleBunker 13", NOT_NOW);
        }
        answered(Moments.BETWEEN, "toggleBunker 13", 0);
        answered(Moments.ENDED, "toggleBunker 13", 0);
        answered(Moments.ENDED, "toggleBunker 77", 1);
    }

    private static void sees() {
        Asked[][] moments = {Moments.FIELD, Moments.PLAYING};
        for (Asked[] moment : moments) {
            noIndexOutside(moment, "sees", 144, " 0");
            noIndexOutside(moment, "sees 143", 144, "");
            answered(moment, "sees 0 143", 0);
            answered(moment, "sees 143 11", 1);
        }
        refused(Moments.EMPTY, "sees 144 144", NO_INDEX);
        refused(Moments.EMPTY, "sees -1 -1", NO_INDEX);
    }

    private static void view() {
        noIndexOutside(Moments.EMPTY, "view", 144, "");
        noIndexOutside(Moments.PLAYING, "view", 144, "");
        answered(Moments.EMPTY, "view 0", 144);
        answered(Moments.EMPTY, "view 143", 144);
    }

    private static void setReferee() {
        Asked[][] moments = {Moments.EMPTY, Moments.PLAYING};
        for (Asked[] moment : moments) {
            noIndexOutside(moment, "setReferee", 2, " 5");
            noIndexOutside(moment, "setReferee 0", 144, "");
            noIndexOutside(moment, "setReferee 1", 144, "");
            answered(moment, "setReferee 0 143", 0);
            answered(moment, "setReferee 1 0", moment == Moments.EMPTY ? 143 : 30);
        }
        refused(Moments.EMPTY, "setReferee 2 144", NO_INDEX);
    }

    private static void begin() {
        noIndexOutside(Moments.BETWEEN, "begin", 6, " 0");
        noIndexOutside(Moments.BETWEEN, "begin 5", 6, "");
        answered(Moments.BETWEEN, "begin 0 5", 0);
        answered(Moments.BETWEEN, "begin 5 0", 0);
        for (int team = 0; team < 6; team++) {
            refused(Moments.BETWEEN, "begin " + team + " " + team, BAD_ARGUMENT);
            answered(Moments.BETWEEN, "begin " + team + " " + (team + 1) % 6, 0);
        }
        Asked[][] inRound = {Moments.BEGUN, Moments.PLAYING, Moments.SHOT, Moments.ALL_OUT};
        for (Asked[] moment : inRound) {
            refused(moment, "begin 4 1", NOT_NOW);
            refused(moment, "begin 0 5", NOT_NOW);
        }
        answered(Moments.ENDED, "begin 4 1", 0);
    }

    private static void moveNoIndex() {
        Asked[][] moments = {Moments.BEGUN, Moments.PLAYING};
        for (Asked[] moment : moments) {
            noIndexOutside(moment, "move", 6, " 1");
            noIndexOutside(moment, "move 0", 144, "");
        }
        answered(Moments.BEGUN, "move 0 143", -1);
        answered(Moments.BEGUN, "move 5 0", -1);
        // A neighbour that a placed player would have if the field went on.
        refused(Moments.PLAYING, "move 5 155", NO_INDEX);
        refused(Moments.PLAYING, "move 5 144", NO_INDEX);
        refused(Moments.PLAYING, "move 0 -12", NO_INDEX);
    }

    private static void moveNotNow() {
        refused(Moments.EMPTY, "move 0 0", NOT_NOW);
        refused(Moments.BETWEEN, "move 5 143", NOT_NOW);
        refused(Moments.ENDED, "move 0 1", NOT_NOW);
        refused(Moments.PLAYING, "move 3 5", NOT_NOW);
        refused(Moments.PLAYING, "move 4 24", NOT_NOW);
        refused(Moments.ALL_OUT, "move 0 1", NOT_NOW);
        refused(Moments.PLAYING, "move 2 13", NOT_NOW);
        refused(Moments.PLAYING, "move 0 13", NOT_NOW);
        refused(Moments.PLAYING, "move 2 0", NOT_NOW);
        refused(Moments.PLAYING, "move 2 24", NOT_NOW);
        refused(Moments.PLAYING, "move 2 143", NOT_NOW);
        answered(Moments.PLAYING, "move 2 4", -1);
        answered(Moments.PLAYING, "move 0 12", 0);
        Asked[] together = then(Moments.PLAYING, "move 2 1");
        refused(together, "move 0 1", NOT_NOW);
        refused(together, "move 2 0", NOT_NOW);
        answered(then(together, "move 2 2"), "move 0 1", 0);
        Asked[] metByHit = then(Moments.BEGUN, "move 0 0, move 3 1, shoot 0 1, pass 1");
        refused(metByHit, "move 0 1", NOT_NOW);
        refused(metByHit, "move 1 1", NOT_NOW);
        answered(then(metByHit, "call 0 3"), "move 0 1", 0);
        answered(then(metByHit, "call 0 3"), "move 1 1", -1);
    }

    // All neighbours and all that are none, from every cell; cells of one row more are none over the edge.
    private static void moveNoNeighbour() {
        for (int from = 0; from < 144; from++) {
            for (int to = 0; to < 144; to++) {
                int rows = Math.abs(from / 12 - to / 12);
                int columns = Math.abs(from % 12 - to % 12);
                boolean near = rows <= 1 && columns <= 1 && from != to;
                PaintballAtlas atlas = new PaintballAtlas();
                atlas.begin(0, 1);
                atlas.move(0, from);
                Asked move = new Asked(7, 0, to);
                Due.same(from + " and " + move.written(), move.answer(atlas), near ? "" + from : NOT_NOW);
                Due.is(from + ", behind " + move.written(), atlas.where(0), near ? to : from);
            }
        }
        refused(Moments.PLAYING, "move 0 0", NOT_NOW);
        refused(Moments.PLAYING, "move 0 2", NOT_NOW);
        refused(Moments.PLAYING, "move 1 23", NOT_NOW);
        refused(Moments.PLAYING, "move 5 129", NOT_NOW);
        answered(Moments.PLAYING, "move 5 130", 143);
    }

    private static void shootNoIndex() {
        noIndexOutside(Moments.PLAYING, "shoot", 6, " 0");
        noIndexOutside(Moments.PLAYING, "shoot 5", 144, "");
        answered(Moments.PLAYING, "shoot 5 0", 4);
        answered(Moments.PLAYING, "shoot 5 142", 2);
        answered(then(Moments.PLAYING, "pass 1"), "shoot 0 143", 5);
    }

    private static void shootNotNow() {
        refused(Moments.EMPTY, "shoot 0 1", NOT_NOW);
        refused(Moments.BETWEEN, "shoot 5 1", NOT_NOW);
        refused(Moments.ENDED, "shoot 5 1", NOT_NOW);
        refused(Moments.BEGUN, "shoot 0 1", NOT_NOW);
        refused(Moments.PLAYING, "shoot 2 1", NOT_NOW);
        answered(then(Moments.PLAYING, "move 2 2"), "shoot 2 1", 2);
        refused(Moments.PLAYING, "shoot 3 1", NOT_NOW);
        refused(Moments.PLAYING, "shoot 4 1", NOT_NOW);
        answered(then(Moments.PLAYING, "dispute 2"), "shoot 4 1", 2);
        refused(Moments.PLAYING, "shoot 5 143", NOT_NOW);
        answered(Moments.PLAYING, "shoot 5 131", 2);
        refused(Moments.SHOT, "shoot 5 61", NOT_NOW);
        refused(then(Moments.SHOT, "pass 1"), "shoot 0 1", NOT_NOW);
        refused(then(Moments.SHOT, "pass 50"), "shoot 4 1", NOT_NOW);
        answered(then(Moments.SHOT, "end, begin 4 1, move 0 0"), "shoot 0 1", 1);
    }

    // The 100th shot is one that is shot; refused ones before it do not count.
    private static void shootInOneTick() {
        refused(Moments.PLAYING, "shoot 0 1", NOT_NOW);
        refused(Moments.PLAYING, "shoot 1 28", NOT_NOW);
        answered(then(Moments.PLAYING, "pass 1"), "shoot 0 1", 3);
        answered(Moments.PLAYING, "shoot 5 142", 2);
        Asked[] all = Moments.SHOT;
        Asked[] before = new Asked[all.length - 1];
        System.arraycopy(all, 0, before, 0, before.length);
        refused(before, "shoot 0 1", NOT_NOW);
        refused(before, "shoot 4 48", NOT_NOW);
        PaintballAtlas atlas = Moments.at(before);
        for (int again = 0; again < 20; again++) {
            Due.notNow("shot in this tick", () -> atlas.shoot(0, 1));
            Due.notNow("at its own cell", () -> atlas.shoot(4, 48));
        }
        Due.is("the 100th shot", atlas.shoot(4, 49), 20);
        Due.notNow("the 101st shot", () -> atlas.shoot(5, 61));
    }

    private static void pass() {
        String[] outOfRange = {"pass 0", "pass 51", "pass -1", "pass" + LEAST, "pass" + MOST};
        for (String call : outOfRange) {
            refused(Moments.PLAYING, call, BAD_ARGUMENT);
        }
        answered(Moments.PLAYING, "pass 1", 0);
        answered(Moments.PLAYING, "pass 50", 0);
        Asked[][] noRound = {Moments.EMPTY, Moments.BETWEEN, Moments.ENDED};
        for (Asked[] moment : noRound) {
            refused(moment, "pass 1", NOT_NOW);
            refused(moment, "pass 50", NOT_NOW);
        }
    }

    private static void callNoIndex() {
        noIndexOutside(Moments.PLAYING, "call", 2, " 0");
        noIndexOutside(Moments.PLAYING, "call 0", 6, "");
        answered(Moments.PLAYING, "call 0 0", 3);
        answered(then(Moments.PLAYING, "setReferee 1 143"), "call 1 5", 3);
    }

    private static void callNotNow() {
        refused(Moments.EMPTY, "call 0 0", NOT_NOW);
        refused(Moments.BETWEEN, "call 1 5", NOT_NOW);
        refused(Moments.ENDED, "call 0 0", NOT_NOW);
        refused(Moments.BEGUN, "call 0 0", NOT_NOW);
        refused(Moments.PLAYING, "call 0 2", NOT_NOW);
        refused(Moments.PLAYING, "call 0 3", NOT_NOW);
        refused(Moments.PLAYING, "call 0 4", NOT_NOW);
        answered(then(Moments.PLAYING, "dispute 2"), "call 0 4", 3);
        // 143 stands behind the bunker 13, seen from 0; the referee 1 stands on the bunker 30.
        refused(Moments.PLAYING, "call 0 5", NOT_NOW);
        refused(Moments.PLAYING, "call 1 0", NOT_NOW);
        refused(Moments.PLAYING, "call 1 5", NOT_NOW);
        // From 1 the line to 143 cuts off a sliver of 13; from 2 it passes by.
        refused(then(Moments.PLAYING, "setReferee 0 1"), "call 0 5", NOT_NOW);
        answered(then(Moments.PLAYING, "setReferee 0 2"), "call 0 5", 3);
        answered(then(Moments.PLAYING, "setReferee 1 29"), "call 1 5", 3);
    }

    private static void dispute() {
        noIndexOutside(Moments.PLAYING, "dispute", 3, "");
        noIndexOutside(Moments.BEGUN, "dispute", 0, "");
        noIndexOutside(Moments.ALL_OUT, "dispute", 6, "");
        answered(Moments.PLAYING, "dispute 2", 0);
        answered(Moments.ALL_OUT, "dispute 0", 0);
        answered(Moments.ALL_OUT, "dispute 5", 0);
        Asked[][] noRound = {Moments.EMPTY, Moments.BETWEEN, Moments.ENDED};
        for (Asked[] moment : noRound) {
            refused(moment, "dispute 0", NO_INDEX);
            refused(moment, "dispute 2", NO_INDEX);
        }
        refused(Moments.PLAYING, "dispute 0", NOT_NOW);
        refused(Moments.PLAYING, "dispute 1", NOT_NOW);
        refused(then(Moments.PLAYING, "dispute 2"), "dispute 2", NOT_NOW);
        // The player of a disputed call is called out once more: the old call stays disputed.
        refused(then(Moments.PLAYING, "call 0 0"), "dispute 1", NOT_NOW);
        answered(then(Moments.PLAYING, "call 0 0"), "dispute 3", 0);
        // Calls of the round before are no calls of this one.
        refused(then(Moments.ENDED, "begin 4 1"), "dispute 2", NO_INDEX);
        answered(then(Moments.ENDED, "begin 4 1, move 0 0, call 0 0"), "dispute 0", 0);
    }

    private static void end() {
        Asked[][] noRound = {Moments.EMPTY, Moments.BETWEEN, Moments.ENDED};
        for (Asked[] moment : noRound) {
            refused(moment, "end", NOT_NOW);
        }
        answered(Moments.BEGUN, "end", 0);
        answered(Moments.ALL_OUT, "end", 0);
    }

    private static void whereAndHit() {
        Asked[][] moments = {Moments.EMPTY, Moments.PLAYING, Moments.ENDED};
        for (Asked[] moment : moments) {
            noIndexOutside(moment, "where", 6, "");
            noIndexOutside(moment, "hit", 6, "");
        }
        answered(Moments.PLAYING, "where 0", 0);
        answered(Moments.PLAYING, "where 5", 143);
        answered(Moments.PLAYING, "hit 0", -1);
        answered(Moments.PLAYING, "hit 5", -1);
    }

    private static void table() {
        String[] calls = {"points", "fines", "difference", "place"};
        for (String call : calls) {
            noIndexOutside(Moments.EMPTY, call, 6, "");
            noIndexOutside(Moments.PLAYING, call, 6, "");
            answered(Moments.EMPTY, call + " 0", call.equals("place") ? 1 : 0);
            answered(Moments.EMPTY, call + " 5", call.equals("place") ? 6 : 0);
        }
    }

    private static void indexGoesFirst() {
        refused(Moments.PLAYING, "toggleBunker 144", NO_INDEX);
        refused(Moments.EMPTY, "begin 6 6", NO_INDEX);
        refused(Moments.EMPTY, "begin -1 -1", NO_INDEX);
        refused(Moments.PLAYING, "begin 6 6", NO_INDEX);
        refused(Moments.PLAYING, "begin 0 6", NO_INDEX);
        refused(Moments.PLAYING, "begin -1 0", NO_INDEX);
        String[] noIndex = {
            "move 6 0", "move 0 144", "move -1 -1", "shoot 6 0", "shoot 0 144", "shoot -1 -1",
            "call 2 0", "call 0 6", "call -1 -1", "where 6", "hit 6",
        };
        Asked[][] moments = {Moments.EMPTY, Moments.BEGUN, Moments.SHOT, Moments.ALL_OUT, Moments.ENDED};
        for (Asked[] moment : moments) {
            for (String call : noIndex) {
                refused(moment, call, NO_INDEX);
            }
        }
        // Out, not placed, and shot in this tick: each with a cell, a player or a referee that is not there.
        String[] alsoNotNow = {
            "move 3 144", "move 2 144", "shoot 3 -1", "shoot 2 144", "shoot 0 144", "call 2 3", "call -1 2", "call 2 5",
        };
        for (String call : alsoNotNow) {
            refused(Moments.PLAYING, call, NO_INDEX);
        }
    }

    private static void argumentGoesBeforeMoment() {
        Asked[][] inRound = {Moments.BEGUN, Moments.PLAYING, Moments.SHOT};
        for (Asked[] moment : inRound) {
            refused(moment, "begin 0 0", BAD_ARGUMENT);
            refused(moment, "begin 4 4", BAD_ARGUMENT);
        }
        Asked[][] noRound = {Moments.EMPTY, Moments.BETWEEN, Moments.ENDED};
        for (Asked[] moment : noRound) {
            refused(moment, "pass 0", BAD_ARGUMENT);
            refused(moment, "pass 51", BAD_ARGUMENT);
            refused(moment, "pass" + LEAST, BAD_ARGUMENT);
        }
    }
}
