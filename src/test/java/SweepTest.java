/**
 * Each call of the face with all its arguments, and those next to them, at each of the Moments: the answer against that
 * of Model, and that a call which is refused, or only looks, leaves the object as it was.
 */
public final class SweepTest {
    private static final int[] NONE = {0};
    private static final int[] CELLS = from(-1, 144);
    private static final int[] PEOPLE = from(-1, 6);
    private static final int[] REFEREES = from(-1, 2);
    private static final int[] TICKS = from(-1, 52);
    private static final int[] CALLS = from(-1, 8);

    // By the number of the promise; in pairs: the first argument, the second one.
    private static final int[][] ARGUMENTS = {
        NONE, NONE, NONE, NONE, CELLS, NONE, CELLS, CELLS, CELLS, NONE, REFEREES, CELLS, PEOPLE, PEOPLE,
        PEOPLE, CELLS, PEOPLE, CELLS, TICKS, NONE, REFEREES, PEOPLE, CALLS, NONE, NONE, NONE, NONE, NONE,
        PEOPLE, NONE, PEOPLE, NONE, NONE, NONE, PEOPLE, NONE, PEOPLE, NONE, PEOPLE, NONE, PEOPLE, NONE,
    };

    public static void main(String[] args) {
        for (int moment = 0; moment < Moments.ALL.length; moment++) {
            for (int face = 2; face <= 20; face++) {
                sweep(moment, face);
            }
        }
        Due.close("SweepTest");
    }

    private static int[] from(int first, int last) {
        int[] row = new int[last - first + 3];
        for (int i = 0; i <= last - first; i++) {
            row[i] = first + i;
        }
        row[row.length - 2] = Integer.MIN_VALUE;
        row[row.length - 1] = Integer.MAX_VALUE;
        return row;
    }

    private static void sweep(int moment, int face) {
        int count = 0;
        for (int first : ARGUMENTS[2 * face]) {
            for (int second : ARGUMENTS[2 * face + 1]) {
                Asked call = new Asked(face, first, second);
                // The pairs of two cells are very many, and at most moments the bunkers are the same.
                if (face != 3 || moment < 2 || count % 29 == 0) {
                    sweepOne(moment, call);
                }
                count++;
            }
        }
    }

    private static void sweepOne(int moment, Asked call) {
        Asked[] before = Moments.ALL[moment];
        String got = call.answer(Moments.at(before));
        String due = call.answer(Moments.modelAt(before));
        Due.same("moment " + moment + ": " + call.written(), got, due);
        boolean looks = call.face == 3 || call.face == 4 || call.face >= 13;
        if (Asked.isRefusal(due) || looks && call.first % 16 == 0) {
            Moments.dueUnchanged(before, call);
        }
    }
}
