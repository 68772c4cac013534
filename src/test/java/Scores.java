import java.util.Arrays;

/** Texts and rows of answers that the checks of edges share. */
final class Scores {
    /** DOWN, WANT 0; the BEST is -14, -14 of UGLINESS 0; 523 SETTINGS: 35 level ones, twice 34, 33 .. 27 others. */
    static final String FLAT = "note 8 0;note 8 0;";
    /**
     * KNEED; the BEST is -4, 0 of UGLINESS 16: a stem of 12 that had rather be 16 (8), slope 4 for 5 (6), two heights
     * that are 0 modulo 4 (1 each).
     */
    static final String RISE = "note 8 -8;note 8 8;";
    /** UP at -2 asks for a beam at 6 at least, DOWN at 2, right behind it, for one at -6 at most. */
    static final String NEVER = "knee 4;metre 4 2;note 8 -6;note 8 -2;note 8 2;note 8 6;";
    /** What can be no number of an ELEMENT of FLAT or RISE; but for 1, of a GROUP of theirs. */
    static final int[] NO_ELEMENT = {-1, 2, 64, 4096, Integer.MAX_VALUE, Integer.MIN_VALUE};
    static final int[] NO_GROUP = {-1, 1, 32, 4096, Integer.MAX_VALUE, Integer.MIN_VALUE};

    private Scores() {
    }

    /** All notes, told as kind and POSITION, under one beam. */
    static BeamSetter beam(String... notes) {
        return beamOfKnee(9, notes);
    }

    static BeamSetter beamOfKnee(int knee, String... notes) {
        return Checks.setter("knee " + knee + ";" + underOne(notes));
    }

    static String underOne(String... notes) {
        StringBuilder text = new StringBuilder("metre 12 2;split 12;");
        for (String note : notes) {
            text.append("note ").append(note).append(';');
        }
        return text.toString();
    }

    static String[] many(int times, String note) {
        String[] all = new String[times];
        Arrays.fill(all, note);
        return all;
    }

    static int[] directions(BeamSetter x) {
        int[] all = new int[x.count(1)];
        for (int i = 0; i < all.length; i++) {
            all[i] = x.direction(i);
        }
        return all;
    }

    static int[] bests(BeamSetter x, int g) {
        int[] all = new int[6];
        for (int what = 0; what < 6; what++) {
            all[what] = x.best(g, what);
        }
        return all;
    }

    static int[] rankeds(BeamSetter x, int g, int k) {
        int[] all = new int[6];
        for (int what = 0; what < 6; what++) {
            all[what] = x.ranked(g, k, what);
        }
        return all;
    }

    static int[] groups(BeamSetter x, int g) {
        int[] all = new int[7];
        for (int what = 0; what < 7; what++) {
            all[what] = x.group(g, what);
        }
        return all;
    }

    static int[] uglies(BeamSetter x, int l, int r) {
        int[] all = new int[4];
        for (int what = 0; what < 4; what++) {
            all[what] = x.ugliness(0, l, r, what);
        }
        return all;
    }

    static int[] stems(BeamSetter x, int i) {
        return new int[] {x.stem(i, 0), x.stem(i, 1), x.stem(i, 2), x.stem(i, 3)};
    }

    static int[] beams(BeamSetter x, int i) {
        return new int[] {x.beams(i, 0), x.beams(i, 1), x.beams(i, 2), x.beams(i, 3)};
    }

    static int[] totals(BeamSetter x) {
        return new int[] {x.total(0), x.total(1), x.total(2), x.total(3)};
    }
}
