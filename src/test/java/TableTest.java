/** Promises 17 to 20: the table. */
public final class TableTest {
    private static final int[] NO_TEAMS = {-1, 6, Integer.MIN_VALUE, Integer.MAX_VALUE};

    public static void main(String[] args) {
        pointsAndDifference();
        finesAreTakenAtTheEnd();
        finesOfEveryTeam();
        finesOfATeamThatDidNotPlay();
        placeByPoints();
        placeByRoundsWon();
        placeByDifference();
        placeByNumber();
        placesThatGoRound();
        wrongTeams();
        Due.close("TableTest");
    }

    private static void pointsAndDifference() {
        PaintballAtlas atlas = new PaintballAtlas();
        play(atlas, 0, 5, 0, 3);
        play(atlas, 5, 0, 0, 1);
        play(atlas, 0, 3, 2, 2);
        play(atlas, 3, 5, 3, 1);
        Due.is("points of 0", atlas.points(0), 4);
        Due.is("points of 5", atlas.points(5), 6);
        Due.is("points of 3", atlas.points(3), 1);
        Due.is("points of one that never played", atlas.points(1), 0);
        Due.is("difference of 0", atlas.difference(0), 2);
        Due.is("difference of 5", atlas.difference(5), 0);
        Due.is("difference of 3", atlas.difference(3), -2);
        Due.is("difference of one that never played", atlas.difference(1), 0);
        atlas.begin(1, 2);
        Due.is("in a round: points", atlas.points(5), 6);
        Due.is("in a round: difference", atlas.difference(0), 2);
        Due.is("in a round: place", atlas.place(5), 1);
    }

    private static void finesAreTakenAtTheEnd() {
        PaintballAtlas atlas = new PaintballAtlas();
        fineAway(atlas, 0, 1, 1);
        Due.is("one fine stays", atlas.fines(1), 1);
        Due.is("and takes no point", atlas.points(1), 0);
        atlas.begin(1, 2);
        fine(atlas, 3);
        fine(atlas, 4);
        Due.is("two fines in the round", atlas.fines(2), 2);
        Due.is("none taken in the round", atlas.points(2), 0);
        atlas.end();
        Due.is("two fines are taken", atlas.fines(2), 0);
        Due.is("and a point", atlas.points(2), -1);
        Due.is("the other one has its fine still", atlas.fines(1), 1);
        Due.is("and its points", atlas.points(1), 3);
        fineAway(atlas, 3, 4, 3);
        Due.is("of three fines one stays", atlas.fines(4), 1);
        Due.is("one point for them", atlas.points(4), -1);
        fineAway(atlas, 2, 1, 1);
        Due.is("fines of two rounds", atlas.fines(1), 0);
        Due.is("take a point", atlas.points(1), 2);
        atlas.begin(5, 0);
        fine(atlas, 0);
        Due.is("fine of a home team", atlas.fines(5), 1);
    }

    private static void finesOfEveryTeam() {
        for (int team = 0; team < 6; team++) {
            PaintballAtlas atlas = new PaintballAtlas();
            fineAway(atlas, (team + 1) % 6, team, 2);
            for (int other = 0; other < 6; other++) {
                int due = other == team ? -1 : other == (team + 1) % 6 ? 3 : 0;
                Due.is("fined " + team + ": points of " + other, atlas.points(other), due);
                Due.is("fined " + team + ": fines of " + other, atlas.fines(other), 0);
            }
        }
    }

    private static void finesOfATeamThatDidNotPlay() {
        PaintballAtlas atlas = new PaintballAtlas();
        fineAway(atlas, 0, 1, 3);
        fineAway(atlas, 0, 1, 3);
        Due.is("of four fines two stay", atlas.fines(1), 2);
        Due.is("a point in each round", atlas.points(1), -2);
        play(atlas, 2, 3, 0, 0);
        Due.is("taken though it did not play", atlas.fines(1), 0);
        Due.is("the point too", atlas.points(1), -3);
        play(atlas, 2, 3, 0, 0);
        Due.is("no more is taken", atlas.points(1), -3);
        Due.is("its place", atlas.place(1), 6);
    }

    private static void placeByPoints() {
        PaintballAtlas atlas = new PaintballAtlas();
        play(atlas, 5, 4, 2, 3);
        play(atlas, 5, 3, 1, 1);
        play(atlas, 0, 2, 3, 0);
        dueInPlace(atlas, 5, 2, 3, 1, 4, 0);
        fineAway(atlas, 4, 2, 2);
        Due.is("points of 2", atlas.points(2), 2);
        Due.is("points of 4", atlas.points(4), 3);
        dueInPlace(atlas, 5, 4, 2, 3, 1, 0);
    }

    private static void placeByRoundsWon() {
        PaintballAtlas atlas = new PaintballAtlas();
        play(atlas, 5, 0, 0, 1);
        play(atlas, 0, 3, 0, 3);
        Due.is("equal points", atlas.points(0), atlas.points(5));
        Due.is("the lesser difference", atlas.difference(5), 1);
        Due.is("the greater difference", atlas.difference(0), 2);
        dueInPlace(atlas, 5, 0, 1, 2, 4, 3);

        PaintballAtlas away = new PaintballAtlas();
        play(away, 1, 4, 2, 1);
        play(away, 2, 1, 3, 0);
        dueInPlace(away, 4, 1, 0, 3, 5, 2);

        PaintballAtlas more = new PaintballAtlas();
        play(more, 4, 3, 0, 1);
        play(more, 3, 4, 1, 0);
        play(more, 4, 3, 3, 0);
        play(more, 3, 5, 0, 3);
        Due.is("equal points again", more.points(3), more.points(4));
        Due.is("2 rounds to 1", more.place(4), 1);
        Due.is("1 round to 2", more.place(3), 2);
    }

    private static void placeByDifference() {
        PaintballAtlas atlas = new PaintballAtlas();
        play(atlas, 4, 1, 0, 2);
        play(atlas, 5, 1, 0, 3);
        play(atlas, 0, 3, 0, 1);
        dueInPlace(atlas, 5, 4, 0, 2, 3, 1);

        PaintballAtlas even = new PaintballAtlas();
        play(even, 0, 1, 0, 1);
        play(even, 1, 0, 0, 2);
        play(even, 0, 1, 1, 1);
        Due.is("a round each: 1", even.place(1), 1);
        Due.is("a round each: 0", even.place(0), 2);
    }

    private static void placeByNumber() {
        PaintballAtlas atlas = new PaintballAtlas();
        play(atlas, 4, 0, 0, 1);
        play(atlas, 2, 1, 0, 1);
        play(atlas, 5, 3, 1, 1);
        dueInPlace(atlas, 2, 4, 3, 5, 0, 1);
    }

    private static void placesThatGoRound() {
        PaintballAtlas atlas = new PaintballAtlas();
        play(atlas, 3, 4, 0, 1);
        play(atlas, 4, 5, 0, 2);
        play(atlas, 5, 3, 0, 3);
        int[] due = {4, 5, 6, 2, 2, 2};
        for (int team = 0; team < 6; team++) {
            Due.is("round: place of " + team, atlas.place(team), due[team]);
        }
    }

    private static void wrongTeams() {
        PaintballAtlas atlas = new PaintballAtlas();
        for (int pass = 0; pass < 2; pass++) {
            for (int team : NO_TEAMS) {
                Due.noIndex("points " + team, () -> atlas.points(team));
                Due.noIndex("fines " + team, () -> atlas.fines(team));
                Due.noIndex("difference " + team, () -> atlas.difference(team));
                Due.noIndex("place " + team, () -> atlas.place(team));
            }
            if (pass == 0) {
                atlas.begin(0, 1);
            }
        }
    }

    private static void dueInPlace(PaintballAtlas atlas, int... teams) {
        for (int i = 0; i < teams.length; i++) {
            Due.is("place of " + teams[i], atlas.place(teams[i]), i + 1);
        }
    }

    // A round in which so many players of each team are called out; no call is disputed.
    private static void play(PaintballAtlas atlas, int home, int away, int homeOut, int awayOut) {
        atlas.begin(home, away);
        for (int i = 0; i < homeOut; i++) {
            atlas.move(i, i);
            atlas.call(0, i);
        }
        for (int i = 0; i < awayOut; i++) {
            atlas.move(3 + i, i);
            atlas.call(0, 3 + i);
        }
        Due.is("margin", atlas.end(), awayOut - homeOut);
    }

    private static void fineAway(PaintballAtlas atlas, int home, int away, int fines) {
        atlas.begin(home, away);
        for (int i = 0; i < fines; i++) {
            fine(atlas, 3 + i);
        }
        atlas.end();
    }

    // The player is hit by one of the other team, called out, and the call disputed.
    private static void fine(PaintballAtlas atlas, int player) {
        int shooter = player < 3 ? 5 : 2;
        if (atlas.where(shooter) == -1) {
            atlas.move(shooter, 0);
        }
        atlas.move(player, 13);
        atlas.shoot(shooter, 13);
        Due.is("fine: hits", atlas.pass(1), 1);
        int call = atlas.call(0, player);
        Due.is("fine: right", atlas.dispute(call), true);
    }
}
