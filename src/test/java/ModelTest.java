/** Long runs of calls: each answer and each exception against those of a second program, Model. */
public final class ModelTest {
    private static final int RUNS = 3000;
    private static final int CALLS = 512;
    private static final int[] WILD = {-1, 2, 6, 50, 51, 144, 511, 512, Integer.MIN_VALUE, Integer.MAX_VALUE};

    // Its own row of numbers, the same each time.
    private static long seed = 20261119L;

    // How often each call of the face comes, by its number in the document.
    private static final int[] OFTEN = {0, 0, 1, 3, 1, 2, 4, 30, 25, 10, 14, 12, 2, 2, 6, 4, 3, 2, 2, 2, 3};

    public static void main(String[] args) {
        for (int run = 0; run < RUNS; run++) {
            compareRun(run);
        }
        neverEndingObject();
        Due.close("ModelTest");
    }

    private static int below(int end) {
        seed = seed * 6364136223846793005L + 1442695040888963407L;
        return (int) ((seed >>> 33) % end);
    }

    private static int pickFace() {
        int all = 0;
        for (int often : OFTEN) {
            all += often;
        }
        int left = below(all);
        int face = 0;
        while (left >= OFTEN[face]) {
            left -= OFTEN[face];
            face++;
        }
        return face;
    }

    private static void compareRun(int run) {
        PaintballAtlas atlas = new PaintballAtlas();
        Model model = new Model();
        int bunkers = below(20);
        for (int call = 0; call < CALLS; call++) {
            int face = call < bunkers ? 2 : pickFace();
            int first = argument(face, 0);
            int second = argument(face, 1);
            Asked asked = new Asked(face, first, second);
            Due.same("run " + run + ", call " + call + ": " + asked.written(), asked.answer(atlas), asked.answer(model));
        }
    }

    // Mostly what makes a round go on: cells near one another, and calls that can be disputed.
    private static int argument(int face, int place) {
        if (below(40) == 0) {
            return WILD[below(WILD.length)];
        }
        switch (face) {
            case 2: return 14 + 12 * below(6) + below(6);
            case 3: case 4: return below(144);
            case 5: case 10: return place == 0 ? below(2) : face == 5 ? near() : below(6);
            case 7: case 8: return place == 0 ? below(6) : near();
            case 9: return below(4) == 0 ? 1 + below(50) : 1 + below(3);
            case 11: return below(below(4) == 0 ? 60 : 8);
            default: return below(6);
        }
    }

    private static int near() {
        return below(6) == 0 ? below(144) : 26 + 12 * below(4) + below(4);
    }

    // Behind 512 calls the answers are free, but the machine itself must throw nothing even then.
    private static void neverEndingObject() {
        PaintballAtlas atlas = new PaintballAtlas();
        atlas.begin(0, 1);
        atlas.move(0, 0);
        for (int call = 0; call < 2000; call++) {
            int number = call;
            Class<?> called = Due.thrownBy(() -> atlas.call(0, 0));
            Class<?> disputed = Due.thrownBy(() -> atlas.dispute(number));
            Due.is("call " + call, called == null || called == IllegalStateException.class, true);
            Due.is("dispute " + call, disputed == null || disputed == IndexOutOfBoundsException.class, true);
        }
    }
}
