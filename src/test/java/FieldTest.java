/** Promises 1 to 5: a new object, and the field. */
public final class FieldTest {
    public static void main(String[] args) {
        newObject();
        newObjectStandsAlone();
        toggleBunker();
        toggleBunkerWrong();
        seesByHand();
        seesOneBunkerEverywhere();
        seesWrong();
        view();
        viewWrong();
        setReferee();
        setRefereeWrong();
        Due.close("FieldTest");
    }

    private static void newObject() {
        PaintballAtlas atlas = new PaintballAtlas();
        for (int cell = 0; cell < 144; cell++) {
            Due.is("new: view " + cell, atlas.view(cell), 144);
        }
        Due.is("new: tick", atlas.tick(), -1);
        Due.is("new: flying", atlas.flying(), 0);
        for (int player = 0; player < 6; player++) {
            Due.is("new: where " + player, atlas.where(player), -2);
            Due.is("new: hit " + player, atlas.hit(player), -1);
        }
        for (int team = 0; team < 6; team++) {
            Due.is("new: points " + team, atlas.points(team), 0);
            Due.is("new: fines " + team, atlas.fines(team), 0);
            Due.is("new: difference " + team, atlas.difference(team), 0);
            Due.is("new: place " + team, atlas.place(team), team + 1);
        }
        Due.is("new: referee 0", atlas.setReferee(0, 5), 0);
        Due.is("new: referee 1", atlas.setReferee(1, 5), 143);
    }

    private static void newObjectStandsAlone() {
        PaintballAtlas used = new PaintballAtlas();
        used.toggleBunker(7);
        used.setReferee(0, 9);
        used.begin(0, 1);
        PaintballAtlas fresh = new PaintballAtlas();
        Due.is("alone: view", fresh.view(7), 144);
        Due.is("alone: referee", fresh.setReferee(0, 9), 0);
        Due.is("alone: tick", fresh.tick(), -1);
    }

    private static void toggleBunker() {
        PaintballAtlas atlas = new PaintballAtlas();
        int[] cells = {0, 11, 12, 77, 132, 143};
        for (int cell : cells) {
            Due.is("put " + cell, atlas.toggleBunker(cell), true);
            Due.is("put: sees itself " + cell, atlas.sees(cell, cell), false);
            Due.is("take " + cell, atlas.toggleBunker(cell), false);
            Due.is("take: sees itself " + cell, atlas.sees(cell, cell), true);
            Due.is("put again " + cell, atlas.toggleBunker(cell), true);
        }
        atlas.begin(2, 4);
        atlas.end();
        Due.is("bunkers stay over a round", atlas.toggleBunker(77), false);
    }

    private static void toggleBunkerWrong() {
        PaintballAtlas atlas = new PaintballAtlas();
        int[] wrong = {-1, 144, Integer.MIN_VALUE, Integer.MAX_VALUE};
        for (int cell : wrong) {
            Due.noIndex("toggle " + cell, () -> atlas.toggleBunker(cell));
        }
        atlas.begin(0, 1);
        Due.notNow("toggle in a round", () -> atlas.toggleBunker(20));
        Due.noIndex("toggle 144 in a round", () -> atlas.toggleBunker(144));
        Due.is("no bunker came", atlas.view(20), 144);
        atlas.end();
        Due.is("toggle behind a round", atlas.toggleBunker(20), true);
    }

    private static void seesByHand() {
        PaintballAtlas atlas = new PaintballAtlas();
        Due.is("empty field", atlas.sees(0, 143), true);
        atlas.toggleBunker(13);
        Due.is("diagonal through the bunker", atlas.sees(0, 26), false);
        Due.is("down through the bunker", atlas.sees(1, 25), false);
        Due.is("along through the bunker", atlas.sees(12, 14), false);
        Due.is("line touches a corner", atlas.sees(1, 12), true);
        Due.is("line touches the other corner", atlas.sees(25, 14), true);
        Due.is("line beside it", atlas.sees(0, 2), true);
        Due.is("flat line through a part", atlas.sees(0, 27), false);
        Due.is("line ends in the bunker", atlas.sees(0, 13), false);
        Due.is("line begins in the bunker", atlas.sees(13, 0), false);
        Due.is("bunker behind the end", atlas.sees(0, 1), true);
        Due.is("in line, but behind the end", atlas.sees(26, 39), true);
        Due.is("bunker sees itself", atlas.sees(13, 13), false);
        Due.is("cell sees itself", atlas.sees(14, 14), true);
        atlas.toggleBunker(13);
        Due.is("bunker gone", atlas.sees(0, 26), true);
    }

    private static void seesOneBunkerEverywhere() {
        for (int bunker = 0; bunker < 144; bunker++) {
            for (int one = 0; one < 144; one++) {
                PaintballAtlas atlas = new PaintballAtlas();
                atlas.toggleBunker(bunker);
                for (int other = 0; other < 144; other++) {
                    Due.is("bunker " + bunker + ": sees " + one + " " + other,
                            atlas.sees(one, other), !Clip.enters(one, other, bunker));
                }
            }
        }
    }

    private static void seesWrong() {
        PaintballAtlas atlas = new PaintballAtlas();
        int[] wrong = {-1, 144, Integer.MIN_VALUE, Integer.MAX_VALUE};
        for (int cell : wrong) {
            Due.noIndex("sees " + cell + " 0", () -> atlas.sees(cell, 0));
            Due.noIndex("sees 143 " + cell, () -> atlas.sees(143, cell));
            Due.noIndex("sees itself " + cell, () -> atlas.sees(cell, cell));
        }
    }

    private static void view() {
        PaintballAtlas atlas = new PaintballAtlas();
        int[] bunkers = {13, 30, 31, 66, 77, 78, 100, 131, 142};
        for (int bunker : bunkers) {
            atlas.toggleBunker(bunker);
        }
        for (int cell = 0; cell < 144; cell++) {
            Due.is("view " + cell, atlas.view(cell), seenByClip(cell, bunkers));
        }
        Due.is("view of a bunker", atlas.view(13), 0);
        PaintballAtlas corner = new PaintballAtlas();
        corner.toggleBunker(13);
        Due.is("view of 0 behind 13", corner.view(0), 59);
        Due.is("view of 143 with 13", corner.view(143), 140);
        corner.begin(0, 1);
        Due.is("view in a round", corner.view(0), 59);
        Due.is("sees in a round", corner.sees(0, 26), false);
    }

    private static int seenByClip(int cell, int[] bunkers) {
        int seen = 0;
        for (int other = 0; other < 144; other++) {
            boolean hidden = false;
            for (int bunker : bunkers) {
                hidden |= Clip.enters(cell, other, bunker);
            }
            seen += hidden ? 0 : 1;
        }
        return seen;
    }

    private static void viewWrong() {
        PaintballAtlas atlas = new PaintballAtlas();
        int[] wrong = {-1, 144, Integer.MIN_VALUE, Integer.MAX_VALUE};
        for (int cell : wrong) {
            Due.noIndex("view " + cell, () -> atlas.view(cell));
        }
    }

    private static void setReferee() {
        PaintballAtlas atlas = new PaintballAtlas();
        Due.is("first of 0", atlas.setReferee(0, 143), 0);
        Due.is("first of 1", atlas.setReferee(1, 0), 143);
        Due.is("second of 0", atlas.setReferee(0, 60), 143);
        Due.is("the same cell", atlas.setReferee(0, 60), 60);
        atlas.toggleBunker(61);
        Due.is("on a bunker", atlas.setReferee(1, 61), 0);
        Due.is("both on one cell", atlas.setReferee(0, 61), 60);
        atlas.begin(0, 1);
        Due.is("in a round", atlas.setReferee(0, 3), 61);
        atlas.move(0, 4);
        Due.is("on a player", atlas.setReferee(0, 4), 3);
        Due.is("calls from its new cell", atlas.call(0, 0), 0);
        atlas.end();
        Due.is("stays over a round", atlas.setReferee(1, 1), 61);
    }

    private static void setRefereeWrong() {
        PaintballAtlas atlas = new PaintballAtlas();
        Due.noIndex("referee -1", () -> atlas.setReferee(-1, 0));
        Due.noIndex("referee 2", () -> atlas.setReferee(2, 0));
        Due.noIndex("cell -1", () -> atlas.setReferee(0, -1));
        Due.noIndex("cell 144", () -> atlas.setReferee(1, 144));
        Due.noIndex("both", () -> atlas.setReferee(Integer.MAX_VALUE, Integer.MIN_VALUE));
        Due.is("0 has not moved", atlas.setReferee(0, 0), 0);
        Due.is("1 has not moved", atlas.setReferee(1, 0), 143);
    }
}
