/** A call of the face with its arguments, so that the same run can be asked of several objects. */
final class Asked {
    private static final String[] NAMES = {
        "", "", "toggleBunker", "sees", "view", "setReferee", "begin", "move", "shoot", "pass", "call",
        "dispute", "end", "tick", "where", "hit", "flying", "points", "fines", "difference", "place",
    };
    private static final int[] ARGUMENTS = {0, 0, 1, 2, 1, 2, 2, 2, 2, 1, 2, 1, 0, 0, 1, 1, 0, 1, 1, 1, 1};

    final int face;
    final int first;
    final int second;

    /** The call of the promise with this number; arguments that it does not have count for nothing. */
    Asked(int face, int first, int second) {
        this.face = face;
        this.first = first;
        this.second = second;
    }

    /** A call as it is written: "move 0 5", "tick". */
    static Asked of(String written) {
        String[] words = written.trim().split(" +");
        int face = 2;
        while (face < NAMES.length && !NAMES[face].equals(words[0])) {
            face++;
        }
        if (face == NAMES.length || words.length != 1 + ARGUMENTS[face]) {
            throw new IllegalArgumentException("no such call: " + written);
        }
        return new Asked(face, argument(words, 1), argument(words, 2));
    }

    private static int argument(String[] words, int place) {
        return place < words.length ? Integer.parseInt(words[place]) : 0;
    }

    /** Calls as they are written, with commas between them. */
    static Asked[] run(String written) {
        if (written.isEmpty()) {
            return new Asked[0];
        }
        String[] parts = written.split(",");
        Asked[] run = new Asked[parts.length];
        for (int i = 0; i < parts.length; i++) {
            run[i] = of(parts[i]);
        }
        return run;
    }

    long of(PaintballAtlas atlas) {
        switch (face) {
            case 2: return atlas.toggleBunker(first) ? 1 : 0;
            case 3: return atlas.sees(first, second) ? 1 : 0;
            case 4: return atlas.view(first);
            case 5: return atlas.setReferee(first, second);
            case 6: atlas.begin(first, second); return 0;
            case 7: return atlas.move(first, second);
            case 8: return atlas.shoot(first, second);
            case 9: return atlas.pass(first);
            case 10: return atlas.call(first, second);
            case 11: return atlas.dispute(first) ? 1 : 0;
            case 12: return atlas.end();
            case 13: return atlas.tick();
            case 14: return atlas.where(first);
            case 15: return atlas.hit(first);
            case 16: return atlas.flying();
            case 17: return atlas.points(first);
            case 18: return atlas.fines(first);
            case 19: return atlas.difference(first);
            default: return atlas.place(first);
        }
    }

    /** What the object answers: the number, or the exception's own name. */
    String answer(PaintballAtlas atlas) {
        try {
            return String.valueOf(of(atlas));
        } catch (RuntimeException e) {
            return e.getClass().getSimpleName();
        }
    }

    String answer(Model model) {
        try {
            return String.valueOf(model.answer(face, first, second));
        } catch (RuntimeException e) {
            return e.getClass().getSimpleName();
        }
    }

    static boolean isRefusal(String answer) {
        return answer.endsWith("Exception");
    }

    String written() {
        String text = NAMES[face];
        text += ARGUMENTS[face] > 0 ? " " + first : "";
        return text + (ARGUMENTS[face] > 1 ? " " + second : "");
    }
}
