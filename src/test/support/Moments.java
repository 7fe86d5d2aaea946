import java.util.ArrayList;
import java.util.List;

/** Moments in the life of an object, each with the calls that lead to it, and whether a call changes anything then. */
final class Moments {
    /** Nothing was asked yet. */
    static final Asked[] EMPTY = Asked.run("");

    /** Bunkers on 13 and 30, the referee 0 on 0 and the referee 1 on the bunker 30; no round so far. */
    static final Asked[] FIELD = Asked.run("toggleBunker 13, toggleBunker 30, setReferee 1 30");

    /** Behind two rounds: the teams 0 and 1 have 3 points each; 0 has won against 1, and 1 has the greater difference. */
    static final Asked[] BETWEEN = joined(FIELD, Asked.run(
            "begin 0 1, move 3 0, call 0 3, end,"
            + "begin 1 2, move 3 0, call 0 3, move 4 0, call 0 4, move 5 0, call 0 5, end"));

    /** The third round, 4 at home against 1, has begun; no player is placed, there is no shot and no call. */
    static final Asked[] BEGUN = joined(BETWEEN, Asked.run("begin 4 1"));

    /**
     * In the third round at tick 1: 0 is on 0, 1 on 24, 5 on 143; 2 is not placed; 3 is out and was hit in tick 1; 4 is
     * out and was not hit. The calls: 0 was right, 1 was wrong, 2 was not disputed. The team 1 has a fine point. 0 and 1
     * have shot in this tick, and both shots are on their way.
     */
    static final Asked[] PLAYING = joined(BEGUN, Asked.run(
            "move 0 0, move 1 24, move 3 4, move 4 12, move 5 143, shoot 0 4, pass 1, call 0 3, dispute 0,"
            + "call 0 0, dispute 1, call 0 4, shoot 1 28, shoot 0 11"));

    /** In the third round at tick 19: 0 to 4 are on the first cells of the rows 0 to 4, 5 is on 60; 100 shots were shot. */
    static final Asked[] SHOT = joined(BEGUN, hundredShots());

    /** All players are placed; then all are called out, 0 to 5 by the calls 0 to 5, and none is disputed. */
    static final Asked[] ALL_OUT = joined(BEGUN, Asked.run(
            "move 0 0, move 1 1, move 2 2, move 3 3, move 4 4, move 5 5,"
            + "call 0 0, call 0 1, call 0 2, call 0 3, call 0 4, call 0 5"));

    /** The round of PLAYING has ended, with its shots on their way and a call that was not disputed. */
    static final Asked[] ENDED = joined(PLAYING, Asked.run("end"));

    static final Asked[][] ALL = {EMPTY, FIELD, BETWEEN, BEGUN, PLAYING, SHOT, ALL_OUT, ENDED};

    // A look at all that shows by itself; then runs that bring to light what does not: who has shot, where shots fly,
    // which calls there are, who won. What would be refused comes late in a run, as it could hide a change.
    private static final Asked[][] PROBES = {
        look(),
        Asked.run("shoot 5 66, shoot 1 66, shoot 0 66, shoot 4 66, shoot 3 66, shoot 2 66, flying,"
                + "move 2 66, pass 1, hit 2, flying, pass 1, hit 2, pass 1, hit 2, flying"),
        Asked.run("move 2 28, pass 1, hit 2, flying, move 2 29, pass 1, hit 2, flying, pass 1, hit 2, flying, pass 1, tick"),
        Asked.run("move 2 11, pass 3, hit 2, pass 1, hit 2, call 0 2, dispute 3, fines 4"),
        Asked.run("dispute 0, dispute 1, dispute 2, dispute 3, dispute 4, dispute 5, dispute 6, where 0, where 1, where 2,"
                + "where 3, where 4, where 5, fines 1, fines 4, call 0 0, call 0 1, call 0 4, call 0 5, dispute 6"),
        Asked.run("setReferee 0 143, setReferee 1 143, call 0 5, call 1 1, setReferee 0 0, setReferee 1 0, dispute 3"),
        Asked.run("end, points 0, points 1, points 2, points 3, points 4, points 5, fines 1, fines 4, difference 0,"
                + "difference 1, difference 2, difference 4, place 0, place 1, place 2, place 3, place 4, place 5,"
                + "begin 3 5, tick, where 0, hit 3, flying, dispute 0, end, place 3, place 5"),
        Asked.run("begin 2 0, toggleBunker 13, toggleBunker 77, sees 0 26, view 0, view 143"),
    };

    private Moments() {
    }

    private static Asked[] hundredShots() {
        StringBuilder run = new StringBuilder("move 0 0, move 1 12, move 2 24, move 3 36, move 4 48, move 5 60");
        for (int shot = 0; shot < 100; shot++) {
            int player = shot % 5;
            run.append(shot > 0 && player == 0 ? ", pass 1" : "");
            run.append(", shoot " + player + " " + (12 * player + 11));
        }
        return Asked.run(run.toString());
    }

    private static Asked[] look() {
        List<Asked> look = new ArrayList<>();
        for (int cell = 0; cell < 144; cell++) {
            look.add(new Asked(3, cell, cell));
        }
        for (int number = 0; number < 6; number++) {
            look.add(new Asked(14, number, 0));
            look.add(new Asked(15, number, 0));
            look.add(new Asked(17, number, 0));
            look.add(new Asked(18, number, 0));
            look.add(new Asked(19, number, 0));
            look.add(new Asked(20, number, 0));
        }
        look.add(Asked.of("tick"));
        look.add(Asked.of("flying"));
        return look.toArray(new Asked[0]);
    }

    static Asked[] joined(Asked[] one, Asked[] other) {
        Asked[] both = new Asked[one.length + other.length];
        System.arraycopy(one, 0, both, 0, one.length);
        System.arraycopy(other, 0, both, one.length, other.length);
        return both;
    }

    /** A new object at this moment; each call on the way must be one that is answered. */
    static PaintballAtlas at(Asked[] moment) {
        PaintballAtlas atlas = new PaintballAtlas();
        for (Asked call : moment) {
            call.of(atlas);
        }
        return atlas;
    }

    static Model modelAt(Asked[] moment) {
        Model model = new Model();
        for (Asked call : moment) {
            model.answer(call.face, call.first, call.second);
        }
        return model;
    }

    private static String[] answers(PaintballAtlas atlas, Asked[] run) {
        String[] answers = new String[run.length];
        for (int i = 0; i < run.length; i++) {
            answers[i] = run[i].answer(atlas);
        }
        return answers;
    }

    /** Looks at whether this call, whatever it answers, leaves an object as it was at that moment. */
    static void dueUnchanged(Asked[] moment, Asked call) {
        for (Asked[] run : PROBES) {
            PaintballAtlas untouched = at(moment);
            PaintballAtlas touched = at(moment);
            call.answer(touched);
            String[] due = answers(untouched, run);
            String[] got = answers(touched, run);
            for (int i = 0; i < run.length; i++) {
                Due.same("behind " + call.written() + ": " + run[i].written(), got[i], due[i]);
            }
        }
    }
}
