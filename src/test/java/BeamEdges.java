/** Part 2 of the terms, up to the STUBS: heads, BEAMS, GROUPS, SETTINGS, how they are judged and sorted. */
final class BeamEdges {
    private static final int NONE = BeamSetter.NONE;
    private static final int NOTHING = BeamSetter.NOTHING;
    private static final int NOT_ALLOWED = -2;
    private static final int LEAST = Integer.MIN_VALUE;
    private static final int MOST = Integer.MAX_VALUE;

    private final Edges edges;

    BeamEdges(Edges edges) {
        this.edges = edges;
    }

    private void heads() {
        edges.terms(2, "Heights are told in quarters of a space of the staff, the middle line 0, upwards more; a head at "
                + "POSITION p lies at 2 p.");
        for (int p = -12; p <= 12; p++) {
            BeamSetter x = Checks.setter("note 8 " + p + ";");
            edges.due("the stem's end less the stem at " + p, 2 * p, x.single(0, 2) - x.single(0, 0) * x.single(0, 1));
        }

        edges.terms(2, "Lines of the staff: -8, -4, 0, 4, 8.");
        // Level beams on DOWN stems from 24: on a line 2 at each end, right between two lines 25, else nothing.
        BeamSetter x = Scores.beam("8 12", "8 12");
        for (int h = -20; h <= 14; h++) {
            boolean line = h == -8 || h == -4 || h == 0 || h == 4 || h == 8;
            boolean between = h == -6 || h == -2 || h == 2 || h == 6;
            edges.due("STAFF at " + h, line ? 4 : between ? 50 : 0, x.ugliness(0, h, h, 3));
        }

        edges.terms(2, "BEAMS of a note: 0 of kind 4; 1, 2, 3 of 8, 16, 32.");
        for (int at = 0; at < 4; at++) {
            int kind = 4 << at;
            edges.due("BEAMS of " + kind, at, Checks.setter("note " + kind + " 0;").element(0, 7));
            edges.due("GROUPS of two", at == 0 ? 0 : 1, Scores.beam(kind + " 0", kind + " 0").count(3));
        }
    }

    private int groupsOf(String text) {
        return Checks.setter(text).count(3);
    }

    private void groups() {
        edges.terms(2, "A GROUP: notes one behind the other (no rest between) that have BEAMS, begin in the same PART of "
                + "the same MEASURE, as many as there are so, two at least. They are NOTES of it; GROUPS are numbered as "
                + "they come.");
        edges.due("a rest between", 0, groupsOf("note 16 0;rest 16;note 16 0;"));
        edges.due("kind 4 between", 0, groupsOf("split 4;note 8 0;note 4 0;note 8 0;"));
        edges.due("the next PART", 0, groupsOf("rest 8;note 8 0;note 8 0;"));
        edges.due("PART 0 of the next MEASURE", 0, groupsOf("metre 1 8;note 8 0;note 8 0;"));
        edges.due("PART 0 of two MEASURES", 2, groupsOf("metre 1 4;note 8 0;note 8 0;note 8 0;note 8 0;"));
        // TIMES 4, 6, 10: the second begins in the PART and ends beyond it, the third begins beyond.
        BeamSetter over = Checks.setter("rest 8;note 16 0;note 8 0;note 16 0;");
        edges.due("begins in the PART", 1, over.count(3));
        edges.due("NOTES", 2, over.group(0, 1));
        edges.due("TIMES 7 and 8 of two PARTS", 0, groupsOf("rest 8;rest 16;rest 32;note 32 0;note 32 0;"));
        edges.due("TIMES 6 and 7 of one", 1, groupsOf("rest 8;rest 16;note 32 0;note 32 0;"));
        edges.due("one alone", 0, groupsOf("note 8 0;"));
        edges.due("its GROUP", -2, Checks.setter("note 8 0;").element(0, 6));
        edges.due("two", 1, groupsOf(Scores.FLAT));
        edges.due("all 64", 64, Scores.beam(Scores.many(64, "32 1")).group(0, 1));
        BeamSetter x = Checks.setter(Scores.FLAT + "note 8 0;rest 8;" + Scores.FLAT + "note 16 0;note 32 0;note 32 0;"
                + "note 8 0;rest 4;" + Scores.FLAT);
        int[] groups = {0, 0, -2, -2, 1, 1, 2, 2, 2, 2, -2, 3, 3};
        for (int i = 0; i < groups.length; i++) {
            edges.due("GROUP of " + i, groups[i], x.element(i, 6));
        }
        edges.due("first of the last GROUP there can be", 62,
                Checks.setter("metre 2 8;split 2;" + Checks.repeated("note 8 1;", 64)).group(31, 0));
    }

    // ---- Terms, part 2: UP and DOWN

    private void waysOf(int knee, int[] positions, int... want) {
        String[] notes = new String[positions.length];
        StringBuilder told = new StringBuilder("directions, KNEE " + knee + ":");
        for (int i = 0; i < notes.length; i++) {
            notes[i] = "8 " + positions[i];
            told.append(' ').append(positions[i]);
        }
        edges.dueAll(told.toString(), Scores.directions(Scores.beamOfKnee(knee, notes)), want);
    }

    private static int[] at(int... positions) {
        return positions;
    }

    private void ways() {
        edges.terms(2, "UP (1), DOWN (-1) of its NOTES: KNEED: of POSITIONS that are unlike and neighbours, in order, the "
                + "greatest gap is KNEE at least: those above the gap are DOWN, those below it UP");
        waysOf(9, at(-4, 5), 1, -1);
        waysOf(9, at(-3, 5), -1, -1);
        waysOf(4, at(1, 5), 1, -1);
        waysOf(4, at(1, 4), -1, -1);
        waysOf(24, at(12, -12), -1, 1);
        waysOf(24, at(12, -11), -1, -1);
        waysOf(4, at(3, 3), -1, -1);
        for (int p = -12; p <= 12; p++) {
            edges.due("no gap at all, KNEED", 0, Scores.beamOfKnee(4, "8 " + p, "8 " + p).group(0, 2));
        }
        // In time -4 and 8 are neighbours, in order 2 lies between: no gap of more than 6.
        waysOf(9, at(-4, 8, 2), -1, -1, -1);
        waysOf(6, at(-4, 8, 2), 1, -1, -1);
        waysOf(9, at(-8, 8), 1, -1);
        waysOf(9, at(-8, 8, 0), 1, 1, 1);
        // The sides of the gap and what is beyond them.
        waysOf(9, at(9, -8, 2, -7), -1, 1, -1, 1);
        waysOf(9, at(-7, 2, 2, -7), 1, -1, -1, 1);
        // The greatest gap, though 6, which is KNEE too, lies nearer to 0.
        waysOf(5, at(-12, -3, 3), 1, -1, -1);
        waysOf(5, at(12, 3, -3), -1, 1, 1);
        edges.due("KNEED", 1, Scores.beam("8 -4", "8 5").group(0, 2));
        edges.due("not KNEED", 0, Scores.beam("8 -3", "8 5").group(0, 2));

        edges.terms(2, "(of several such gaps that of which both sides, added, are nearest to 0, of these the lowest one).");
        // Sides added: -12 and 4; -4 and 12; -8 and 8; -16, 0 and 16; -15, -1 and 13; -17, -5 and 7.
        waysOf(5, at(-10, -2, 6), 1, 1, -1);
        waysOf(5, at(-6, 2, 10), 1, -1, -1);
        waysOf(5, at(8, 0, -8), -1, -1, 1);
        waysOf(5, at(-12, -4, 4, 12), 1, 1, -1, -1);
        waysOf(5, at(-11, -4, 3, 10), 1, 1, -1, -1);
        waysOf(5, at(-12, -5, 0, 7), 1, 1, 1, -1);

        edges.terms(2, "Else all alike: highest is how far the highest one is above 0 (0 if it isn't), lowest how far the "
                + "lowest one is below 0; highest is more: DOWN, lowest is more: UP;");
        waysOf(9, at(-3, 4), -1, -1);
        waysOf(9, at(-4, 3), 1, 1);
        waysOf(9, at(2, 5), -1, -1);
        waysOf(9, at(-1, -5), 1, 1);
        waysOf(9, at(0, 1), -1, -1);
        waysOf(9, at(0, -1), 1, 1);
        // How far the farthest ones are, not how far all of them together.
        waysOf(9, at(4, -3, -3, -3), -1, -1, -1, -1);
        waysOf(9, at(-4, 3, 3, 3), 1, 1, 1, 1);

        edges.terms(2, "alike: all POSITIONS together above 0: DOWN, below 0: UP; 0: is the first NOTE's 0 or more: DOWN, "
                + "else UP.");
        waysOf(9, at(-4, 4, 1), -1, -1, -1);
        waysOf(9, at(4, -4, -1), 1, 1, 1);
        waysOf(9, at(4, -4), -1, -1);
        waysOf(9, at(-4, 4), 1, 1);
        waysOf(9, at(0, -4, 4), -1, -1, -1);
        waysOf(9, at(1, -4, 4, -1), -1, -1, -1, -1);
        waysOf(9, at(-1, -4, 4, 1), 1, 1, 1, 1);
        waysOf(9, at(0, 0), -1, -1);
    }

    // ---- Terms, part 2: SETTINGS

    private void settings() {
        edges.terms(2, "A SETTING of a GROUP: L, R, heights of the beam at its first and its last NOTE, -60 .. 60 each, "
                + "unlike by 8 at most.");
        BeamSetter x = Checks.setter(Scores.FLAT);
        int[][] are = {{60, 60}, {-60, -60}, {60, 52}, {52, 60}, {-60, -52}, {-52, -60}};
        for (int[] s : are) {
            edges.due("ugliness, not ALLOWED " + s[0] + " " + s[1], NOT_ALLOWED, x.ugliness(0, s[0], s[1], 0));
            edges.due("rank, not ALLOWED " + s[0] + " " + s[1], NOT_ALLOWED, x.rank(0, s[0], s[1]));
        }
        // Of some, R less L wraps round to 1, to 0, to what has no number above 0.
        int[][] arent = {{61, 60}, {60, 61}, {-61, -60}, {-60, -61}, {61, 61}, {-61, -61}, {60, 51}, {51, 60}, {-60, -51},
            {LEAST, MOST}, {MOST, LEAST}, {LEAST, LEAST}, {MOST, MOST}, {0, LEAST}, {LEAST, 0}, {0, MOST}, {MOST, 0},
            {-14, LEAST}, {-10, -19}, {-19, -10}};
        for (int[] s : arent) {
            edges.due("ugliness, none " + s[0] + " " + s[1], NONE, x.ugliness(0, s[0], s[1], 0));
            edges.due("rank, none " + s[0] + " " + s[1], NONE, x.rank(0, s[0], s[1]));
        }
        edges.dueAll("unlike by 8", Scores.uglies(x, -10, -18), 60, 12, 48, 0);
        edges.dueAll("unlike by 8", Scores.uglies(x, -18, -10), 60, 12, 48, 0);

        edges.terms(2, "XX: X of the last NOTE less that of the first.");
        edges.due("of two", 16, x.group(0, 3));
        edges.due("of several kinds", 28, Scores.beam("8 0", "16 0", "32 0").group(0, 3));
        edges.due("not from 0 on", 16, Checks.setter("rest 4;" + Scores.FLAT).group(0, 3));
        edges.due("least", 4, Checks.setter("wide 8 4;" + Scores.FLAT).group(0, 3));
        edges.due("most", 63 * 40, Checks.setter("wide 32 40;" + Scores.underOne(Scores.many(64, "32 1"))).group(0, 3));

        edges.terms(2, "Height at a NOTE, times XX: L times (XX less x) and R times x together, x being its X less that of "
                + "the first.");
        // The BEST is -4, -8; x 0, 12, 24, 36.
        BeamSetter y = Checks.setter("rest 4;note 16 4;note 16 5;note 16 6;note 16 -12;");
        edges.dueAll("best", new int[] {y.best(0, 0), y.best(0, 1)}, -4, -8);
        int[][] heights = {{-4, 1}, {-16, 3}, {-20, 3}, {-8, 1}};
        int[][] lengths = {{12, 1}, {46, 3}, {56, 3}, {16, 1}};
        for (int i = 0; i < 4; i++) {
            edges.dueAll("height at " + (i + 1), new int[] {y.stem(i + 1, 2), y.stem(i + 1, 3)}, heights[i]);
        }

        edges.terms(2, "LENGTH of its stem, times XX: that less 2 p XX (DOWN: the other way round).");
        for (int i = 0; i < 4; i++) {
            edges.dueAll("LENGTH of " + (i + 1), new int[] {y.stem(i + 1, 0), y.stem(i + 1, 1)}, lengths[i]);
        }
    }

    private void idealOf(String kind, int p, int want) {
        edges.due("ideal at " + p + " of " + kind, want, Scores.beam(kind + " " + p, kind + " " + p).ideal(1));
    }

    private void ideals() {
        edges.terms(2, "IDEAL: of 1, 2, 3 BEAMS 14, 15, 17; or how far its head (2 p) is from 0, if that is more and its "
                + "stem goes towards 0 (UP: p below 0, DOWN: above).");
        for (int sign = -1; sign <= 1; sign += 2) {
            idealOf("8", sign * 7, 14);
            idealOf("8", sign * 8, 16);
            idealOf("8", sign * 12, 24);
            idealOf("16", sign * 7, 15);
            idealOf("16", sign * 8, 16);
            idealOf("32", sign * 8, 17);
            idealOf("32", sign * 9, 18);
        }
        BeamSetter x = Scores.beam("8 0", "16 0", "32 0");
        edges.dueAll("ideal at 0", new int[] {x.ideal(0), x.ideal(1), x.ideal(2)}, 14, 15, 17);
        BeamSetter up = Scores.beamOfKnee(24, "8 -9", "8 8", "32 8");
        edges.dueAll("UP, away from 0", new int[] {up.ideal(0), up.ideal(1), up.ideal(2)}, 18, 14, 17);
        BeamSetter down = Scores.beamOfKnee(24, "8 9", "8 -8", "16 -8");
        edges.dueAll("DOWN, away from 0", new int[] {down.ideal(0), down.ideal(1), down.ideal(2)}, 18, 14, 15);
    }

    private void allowed(BeamSetter x, int l, int r, boolean is) {
        edges.due("whether " + l + " " + r + " is ALLOWED", is ? 1 : 0, x.ugliness(0, l, r, 0) == NOT_ALLOWED ? 0 : 1);
        edges.due("whether " + l + " " + r + " has a RANK", is ? 1 : 0, x.rank(0, l, r) == NOT_ALLOWED ? 0 : 1);
    }

    private void allowing() {
        edges.terms(2, "It is ALLOWED, if each LENGTH is 10, 11, 13 at least (by BEAMS 1, 2, 3), 44 at most.");
        int[] least = {10, 11, 13};
        for (int at = 0; at < 3; at++) {
            String kind = Integer.toString(8 << at);
            BeamSetter down = Scores.beam(kind + " 0", kind + " 0");
            BeamSetter up = Scores.beam(kind + " -1", kind + " -1");
            for (int length = least[at] - 1; length <= 45; length += length == least[at] ? 44 - least[at] : 1) {
                boolean is = length >= least[at] && length <= 44;
                allowed(down, -length, -length, is);
                allowed(up, length - 2, length - 2, is);
            }
            // Each of them: one too short, one too long at either end.
            allowed(down, -least[at], 1 - least[at], false);
            allowed(down, 1 - least[at], -least[at], false);
            allowed(down, -44, -45, false);
            allowed(down, -45, -44, false);
        }
        BeamSetter mixed = Scores.beam("32 0", "8 0");
        allowed(mixed, -13, -10, true);
        allowed(mixed, -12, -10, false);
        allowed(mixed, -13, -9, false);
        // Between: half of L and R together, 10 at least from 0; no room for a half less.
        BeamSetter between = Scores.beam("8 -1", "8 0", "8 -1");
        allowed(between, 9, 11, true);
        allowed(between, 9, 10, false);
        allowed(between, 8, 12, true);
        allowed(between, 12, 8, true);
        allowed(between, 8, 11, false);
        // 44 at most from -2.
        BeamSetter low = Scores.beam("8 0", "8 -1", "8 0");
        allowed(low, 41, 43, true);
        allowed(low, 42, 43, false);
        allowed(low, 40, 44, true);
        allowed(low, 41, 44, false);
        // A third of XX: 10 less a third is too short, 44 and a third too long.
        BeamSetter thirds = Scores.beam("8 -1", "8 0", "8 0", "8 -1");
        allowed(thirds, 9, 12, true);
        allowed(thirds, 9, 11, false);
        BeamSetter deep = Scores.beam("8 0", "8 -1", "8 -1", "8 0");
        allowed(deep, 43, 40, true);
        allowed(deep, 43, 41, false);
        edges.due("none at all", 0, Checks.setter(Scores.NEVER).group(0, 5));
    }

    // ---- Terms, part 2: UGLINESS

    private void stems() {
        edges.terms(2, "UGLINESS: (a) STEMS: of each NOTE how far LENGTH times XX is from IDEAL times XX, twice if it is "
                + "shorter; all together by XX, downwards.");
        BeamSetter two = Checks.setter(Scores.FLAT);
        edges.due("IDEAL", 0, two.ugliness(0, -14, -14, 1));
        edges.due("longer by 1 and 2", 3, two.ugliness(0, -15, -16, 1));
        edges.due("shorter by 1", 2, two.ugliness(0, -14, -13, 1));
        edges.due("shorter by 2 and 1", 6, two.ugliness(0, -12, -13, 1));
        edges.due("shorter by 1, longer by 1", 3, two.ugliness(0, -13, -15, 1));
        edges.due("longest", 60, two.ugliness(0, -44, -44, 1));
        BeamSetter three = Scores.beam("8 0", "8 0", "8 0");
        edges.due("0, a half, 1", 1, three.ugliness(0, -14, -15, 1));
        edges.due("twice 0, a half, 1", 3, three.ugliness(0, -14, -13, 1));
        BeamSetter four = Scores.beam("8 0", "8 0", "8 0", "8 0");
        edges.due("0, a third, two thirds, 1", 2, four.ugliness(0, -14, -15, 1));
        // 12 of 28 and 1 longer, twice 1 shorter than the 15 of two BEAMS.
        edges.due("3 and 12 by 28", 3, Scores.beam("16 0", "8 0", "8 0").ugliness(0, -14, -15, 1));
        // IDEAL, 10 by 11 longer than the 15 of two BEAMS, 3 longer: less than 4 by 1 of 11.
        BeamSetter elevenths = Checks.setter("wide 8 7;wide 16 4;" + Scores.underOne("8 0", "16 0", "8 0"));
        edges.due("3 and 10 by 11", 3, elevenths.ugliness(0, -14, -17, 1));
        // 1 shorter, 1 by 11 shorter, 2 longer.
        edges.due("4 and 2 by 11", 4, elevenths.ugliness(0, -13, -16, 1));
        // 1 longer, twice 16 of 28 shorter than the 15 of two BEAMS, and IDEAL.
        edges.due("2 and 4 by 28", 2, Scores.beam("8 0", "16 0", "8 0").ugliness(0, -15, -14, 1));
    }

    private void wants() {
        edges.terms(2, "(b) SLOPE: WANT: the last NOTE's POSITION less the first one's, put to -5 .. 5;");
        int[] rises = {0, 1, 4, 5, 6, 8, 24};
        for (int rise : rises) {
            int from = rise == 24 ? -12 : 0;
            edges.due("rises by " + rise, Math.min(5, rise), Scores.beam("8 " + from, "8 " + (from + rise)).want(0));
            edges.due("falls by " + rise, -Math.min(5, rise), Scores.beam("8 " + (from + rise), "8 " + from).want(0));
        }

        edges.terms(2, "0, if the GROUP is not KNEED and a NOTE between lies nearer to the beam than both (UP: above both, "
                + "DOWN: below both).");
        edges.due("DOWN, below both", 0, Scores.beam("8 3", "8 0", "8 1").want(0));
        edges.due("DOWN, as low as one", -2, Scores.beam("8 3", "8 1", "8 1").want(0));
        edges.due("DOWN, below the first one", -2, Scores.beam("8 3", "8 2", "8 1").want(0));
        edges.due("DOWN, below the last one", 2, Scores.beam("8 1", "8 2", "8 3").want(0));
        edges.due("DOWN, above both", -2, Scores.beam("8 3", "8 4", "8 1").want(0));
        edges.due("UP, above both", 0, Scores.beam("8 -3", "8 0", "8 -1").want(0));
        edges.due("UP, as high as one", 2, Scores.beam("8 -3", "8 -1", "8 -1").want(0));
        edges.due("UP, above the first one", 2, Scores.beam("8 -3", "8 -2", "8 -1").want(0));
        edges.due("UP, above the last one", -2, Scores.beam("8 -1", "8 -2", "8 -3").want(0));
        edges.due("UP, below both", 2, Scores.beam("8 -3", "8 -4", "8 -1").want(0));
        edges.due("KNEED, above both", 1, Scores.beam("8 -3", "8 9", "8 -2").want(0));
        edges.due("KNEED, below both", 2, Scores.beam("8 3", "8 -9", "8 5").want(0));
        edges.due("the last one between", 0, Scores.beam("8 3", "8 4", "8 5", "8 0", "8 1").want(0));
        edges.due("the first one between", 0, Scores.beam("8 3", "8 0", "8 4", "8 5", "8 1").want(0));
        edges.due("none between", -3, Scores.beam("8 3", "8 0").want(0));
    }

    private void slopes() {
        edges.terms(2, "6 times how far R less L is from WANT; 20 more, if one of both is above 0, the other below.");
        BeamSetter rise = Scores.beam("8 0", "8 3");
        int[][] ofRise = {{3, 0}, {2, 6}, {4, 6}, {1, 12}, {0, 18}, {8, 30}, {-1, 44}, {-8, 86}};
        for (int[] s : ofRise) {
            edges.due("WANT 3, slope " + s[0], s[1], rise.ugliness(0, -12, -12 + s[0], 2));
        }
        BeamSetter fall = Scores.beam("8 3", "8 0");
        for (int[] s : ofRise) {
            edges.due("WANT -3, slope " + -s[0], s[1], fall.ugliness(0, -12 + s[0], -12, 2));
        }
        BeamSetter one = Scores.beam("8 0", "8 1");
        edges.dueAll("WANT 1, slopes 1, 0, -1", new int[] {one.ugliness(0, -14, -13, 2), one.ugliness(0, -14, -14, 2),
            one.ugliness(0, -14, -15, 2)}, 0, 6, 32);
        BeamSetter less = Scores.beam("8 1", "8 0");
        edges.dueAll("WANT -1, slopes -1, 0, 1", new int[] {less.ugliness(0, -14, -15, 2), less.ugliness(0, -14, -14, 2),
            less.ugliness(0, -14, -13, 2)}, 0, 6, 32);
        BeamSetter flat = Checks.setter(Scores.FLAT);
        for (int slope = -8; slope <= 8; slope++) {
            edges.due("WANT 0, slope " + slope, 6 * Math.abs(slope), flat.ugliness(0, -20, -20 + slope, 2));
        }
    }

    /** What heights -9 .. 9 are modulo 4, written out. */
    private static final int[] MODULO_4 = {3, 0, 1, 2, 3, 0, 1, 2, 3, 0, 1, 2, 3, 0, 1, 2, 3, 0, 1};

    private static int touch(int height, int rise) {
        if (height < -9 || height > 9) {
            return 0;
        }
        switch (MODULO_4[height + 9]) {
            case 2: return 25;
            case 0: return rise == 0 ? 2 : 1;
            case 1: return rise < 0 ? 8 : 0;
            default: return rise > 0 ? 8 : 0;
        }
    }

    /** Of BEAMS at both ends, each next one so much higher. */
    private static int staff(int l, int r, int beamsLeft, int beamsRight, int higher) {
        int sum = 0;
        for (int k = 0; k < beamsLeft; k++) {
            sum += touch(l + k * higher, r - l);
        }
        for (int k = 0; k < beamsRight; k++) {
            sum += touch(r + k * higher, l - r);
        }
        return sum;
    }

    private void staffs() {
        edges.terms(2, "(c) STAFF: at the first and at the last NOTE, of each of its BEAMS: the first one at L (at R), each "
                + "next one 3 nearer to the head (UP: lower, DOWN: higher);");
        String[] kinds = {"8", "16", "32"};
        for (int at = 0; at < 3; at++) {
            BeamSetter down = Scores.beam(kinds[at] + " 12", kinds[at] + " 12");
            BeamSetter up = Scores.beam(kinds[at] + " -12", kinds[at] + " -12");
            for (int h = -20; h <= 11; h++) {
                edges.due("DOWN, " + (at + 1) + " at " + h, staff(h, h, at + 1, at + 1, 3), down.ugliness(0, h, h, 3));
                edges.due("UP, " + (at + 1) + " at " + -h, staff(-h, -h, at + 1, at + 1, -3), up.ugliness(0, -h, -h, 3));
            }
        }
        // Those of the ends alone, each of its own.
        BeamSetter ends = Scores.beam("32 12", "8 12", "16 12");
        BeamSetter between = Scores.beam("8 12", "32 12", "8 12");
        // KNEED: at the first, UP, lower, at the last, DOWN, higher.
        BeamSetter kneed = Scores.beam("16 -12", "32 12");
        for (int h = -13; h <= 9; h++) {
            edges.due("3 and 2 at " + h, staff(h, h + 1, 3, 2, 3), ends.ugliness(0, h, h + 1, 3));
            edges.due("1 and 1 at " + h, staff(h, h + 1, 1, 1, 3), between.ugliness(0, h, h + 1, 3));
            int want = 0;
            for (int k = 0; k < 3; k++) {
                want += (k < 2 ? touch(h - 3 * k, 1) : 0) + touch(h + 1 + 3 * k, -1);
            }
            edges.due("KNEED at " + h, want, kneed.ugliness(0, h, h + 1, 3));
        }

        edges.terms(2, "one at -9 .. 9 counts: what its height is modulo 4 (0 .. 3, of heights below 0, too): 2: 25; 0: 2, if "
                + "R is L, else 1; 1: 8, if the beam goes down from there (towards the other end), else 0; 3: 8, if it goes "
                + "up from there, else 0.");
        for (int slope = -8; slope <= 8; slope++) {
            BeamSetter x = Scores.beam("8 12", "8 12");
            for (int l = -12; l <= 6; l++) {
                edges.due("STAFF of " + l + " " + (l + slope), staff(l, l + slope, 1, 1, 3), x.ugliness(0, l, l + slope, 3));
            }
        }
        BeamSetter x = Scores.beam("8 -2", "8 -2");
        edges.due("at 10, which doesn't count", 0, x.ugliness(0, 10, 10, 3));
        edges.due("at 9 up to 10", 0, x.ugliness(0, 9, 10, 3));
        edges.due("from 10 down to 9, which goes up from there", 0, x.ugliness(0, 10, 9, 3));
        // 9 is 1 modulo 4: 8, for it goes down; 8 is 0: 1.
        edges.due("from 9 down to 8", 9, x.ugliness(0, 9, 8, 3));
        BeamSetter y = Scores.beam("8 2", "8 2");
        edges.due("at -10, which doesn't count", 0, y.ugliness(0, -10, -10, 3));
        // -9 is 3 modulo 4: 8, if the beam goes up from there.
        edges.due("from -9 down to -10", 0, y.ugliness(0, -9, -10, 3));
        edges.due("from -9 up to -8", 9, y.ugliness(0, -9, -8, 3));

        edges.terms(2, "UGLINESS is all three together.");
        BeamSetter z = Scores.beam("32 3", "8 -2", "16 5");
        for (int l = -20; l <= -4; l++) {
            int[] all = Scores.uglies(z, l, l + 3);
            edges.due("UGLINESS of " + l, all[1] < 0 ? -2 : all[1] + all[2] + all[3], all[0]);
        }
    }

    // ---- Terms, part 2: BEST, RANK

    private void best() {
        edges.terms(2, "BEST: of SETTINGS that are ALLOWED that of the least UGLINESS; of several in turn: R and L least "
                + "unlike; LENGTHS times XX of all NOTES together least; the first NOTE UP: L least, then R least (DOWN: "
                + "greatest).");
        sorted(Checks.setter(Scores.RISE));
        // WANT is 1: level costs 6 of SLOPE, slope 1 costs 5 of STEMS and 1 of STAFF.
        BeamSetter unlike = Scores.beam("32 -2", "32 -2", "16 -1", "16 -1");
        edges.dueAll("best", Scores.bests(unlike, 0), 13, 13, 6, 0, 6, 0);
        edges.due("as ugly, unlike by 1", 6, unlike.ugliness(0, 14, 15, 0));
        edges.due("RANK", 1, unlike.rank(0, 14, 15));
        // STEMS of 2 longer, 1 shorter cost 4 each.
        BeamSetter flat = Checks.setter(Scores.FLAT);
        edges.due("as ugly", flat.ugliness(0, -13, -13, 0), flat.ugliness(0, -16, -16, 0));
        edges.due("shorter stems", 2, flat.rank(0, -13, -13));
        edges.due("longer stems", 3, flat.rank(0, -16, -16));
        edges.due("as ugly, as unlike, as long", flat.ugliness(0, -14, -15, 0), flat.ugliness(0, -15, -14, 0));
        edges.due("DOWN, L greater", 5, flat.rank(0, -14, -15));
        edges.due("DOWN, L less", 6, flat.rank(0, -15, -14));
        BeamSetter up = Scores.beam("8 -5", "8 -5");
        edges.due("as ugly, as unlike, as long", up.ugliness(0, 10, 11, 0), up.ugliness(0, 11, 10, 0));
        edges.due("UP, L less is next to L greater", 1, up.rank(0, 11, 10) - up.rank(0, 10, 11));
        // UP, DOWN, DOWN, UP at x 0, 16, 32, 48: how far R is changes nothing in all LENGTHS together.
        BeamSetter r = Scores.beamOfKnee(6, "8 -9", "8 4", "8 4", "8 -9");
        edges.due("as ugly, the same L", r.ugliness(0, -4, -5, 0), r.ugliness(0, -4, -3, 0));
        edges.due("UP, R less", 7, r.rank(0, -4, -5));
        edges.due("UP, R greater", 8, r.rank(0, -4, -3));
        BeamSetter s = Scores.beamOfKnee(6, "8 3", "8 -11", "8 -9", "8 3");
        edges.due("as ugly, the same L", s.ugliness(0, -6, -5, 0), s.ugliness(0, -6, -7, 0));
        edges.due("DOWN, R greater", 17, s.rank(0, -6, -5));
        edges.due("DOWN, R less", 18, s.rank(0, -6, -7));

        edges.terms(2, "RANK: so sorted, 0 the BEST.");
        edges.due("rank of the BEST", 0, flat.rank(0, flat.best(0, 0), flat.best(0, 1)));
        edges.due("rank of the last", 522, flat.rank(0, flat.ranked(0, 522, 0), flat.ranked(0, 522, 1)));
        // 30 and 22 longer than IDEAL, 48 for a slope of 8; of -36, -44, which is as ugly, L is greater.
        edges.dueAll("the last", new int[] {flat.ranked(0, 522, 0), flat.ranked(0, 522, 1), flat.ranked(0, 522, 2)},
                -44, -36, 100);
        // UP at 0, 10 at least, and DOWN at 6, 2 at most: by slopes of 8 one alone.
        edges.dueAll("slope -8", Scores.bests(Scores.beamOfKnee(4, "8 0", "8 6"), 0), 10, 2, 139, 16, 98, 25);
        edges.dueAll("slope 8", Scores.bests(Scores.beamOfKnee(4, "8 6", "8 0"), 0), 2, 10, 139, 16, 98, 25);
        // DOWN: -26, -25 at most at the end, so -20 at least at the second one asks for a slope of 9 and more.
        BeamSetter steep = Checks.setter("knee 13;wide 8 7;wide 16 4;" + Scores.underOne("8 7", "16 12", "8 -4", "16 -7"));
        edges.due("a slope beyond 8 alone", NOTHING, steep.best(0, 0));
        edges.due("a slope beyond 8 alone, ALLOWED", 0, steep.group(0, 5));
        BeamSetter turned = Checks.setter("knee 13;wide 8 7;wide 16 4;" + Scores.underOne("8 -7", "16 -12", "8 4", "16 7"));
        edges.due("turned", NOTHING, turned.best(0, 0));
        edges.due("turned, ALLOWED", 0, turned.group(0, 5));
        // Of one SETTING alone the BEST is the last, too.
        BeamSetter one = Scores.beam("8 0", "16 10", "8 -10", "8 0");
        edges.due("one alone is ALLOWED", 1, one.group(0, 5));
        edges.due("its RANK", 0, one.rank(0, one.best(0, 0), one.best(0, 1)));
    }

    /** All SETTINGS of a GROUP, from the BEST on: each goes ahead of the next one by the first that is unlike. */
    private void sorted(BeamSetter x) {
        int many = x.group(0, 5);
        int[] before = null;
        for (int k = 0; k < many && k < 100; k++) {
            int l = x.ranked(0, k, 0);
            int r = x.ranked(0, k, 1);
            // Of RISE, UP and DOWN, LENGTHS together are L less R and what is the same of all.
            int[] now = {x.ranked(0, k, 2), Math.abs(r - l), l - r, l, r};
            edges.due("RANK " + k + " goes behind the one ahead", 1, before == null || isLess(before, now) ? 1 : 0);
            before = now;
        }
    }

    private static boolean isLess(int[] a, int[] b) {
        for (int i = 0; i < a.length; i++) {
            if (a[i] != b[i]) {
                return a[i] < b[i];
            }
        }
        return false;
    }

    // ---- Terms, part 2: BEAMS to the left and to the right

    private void sides() {
        edges.terms(2, "LEFT, RIGHT of a NOTE of a GROUP: the lesser of its BEAMS and those of the NOTE ahead, behind (0 "
                + "without one).");
        BeamSetter x = Scores.beam("16 0", "8 0", "16 0", "32 0", "32 0", "16 0");
        int[][] sides = {{0, 1}, {1, 1}, {1, 2}, {2, 3}, {3, 2}, {2, 0}};
        for (int i = 0; i < sides.length; i++) {
            edges.dueAll("of " + i, new int[] {x.beams(i, 0), x.beams(i, 1)}, sides[i]);
        }
        BeamSetter y = Checks.setter("note 16 0;note 16 0;note 16 0;note 16 0;note 16 0;note 16 0;");
        edges.due("RIGHT of the last, a GROUP behind", 0, y.beams(3, 1));
        edges.due("LEFT of the first, a GROUP ahead", 0, y.beams(4, 0));
        BeamSetter apart = Checks.setter("note 16 0;note 16 0;rest 16;note 16 0;rest 16;note 16 0;note 16 0;");
        edges.due("RIGHT of the last, a rest behind", 0, apart.beams(1, 1));
        edges.due("LEFT of the first, a rest ahead", 0, apart.beams(5, 0));

        edges.terms(2, "STUBS: BEAMS less the greater of both: they go to the right of the first NOTE, to the left of the "
                + "last;");
        edges.dueAll("the first", Scores.beams(Scores.beam("32 0", "8 0"), 0), 0, 1, 0, 2);
        edges.dueAll("the last", Scores.beams(Scores.beam("8 0", "32 0"), 1), 1, 0, 2, 0);
        edges.dueAll("without STUBS", Scores.beams(Scores.beam("8 0", "8 0"), 0), 0, 1, 0, 0);
        // The TIME of the first one by its LONG is odd, of the last one even: that is for those between.
        edges.dueAll("the first, at an odd TIME", Scores.beams(Checks.setter("split 4;rest 32;note 32 0;note 8 0;"), 1),
                0, 1, 0, 2);
        edges.dueAll("the last, at an even TIME", Scores.beams(Checks.setter("split 4;note 8 0;note 16 0;"), 1), 1, 0, 1, 0);
        // TIMES 2, 6 | 8, 9 | 16, 20: what is of another GROUP is no neighbour, whatever its BEAMS.
        BeamSetter beyond = Checks.setter("rest 16;note 8 0;note 16 0;note 32 0;note 32 0;rest 16;rest 8;note 16 0;note 8 0;");
        edges.dueAll("the last, one of 3 BEAMS behind", Scores.beams(beyond, 2), 1, 0, 1, 0);
        BeamSetter ahead = Checks.setter("rest 8;rest 16;note 32 0;note 32 0;note 16 0;note 8 0;");
        edges.dueAll("the first, one of 3 BEAMS ahead", Scores.beams(ahead, 4), 0, 1, 0, 1);
        edges.dueAll("the greater of both is its own", Scores.beams(Scores.beam("8 0", "16 0", "32 0"), 1), 1, 2, 0, 0);

        edges.terms(2, "else to that neighbour that has more BEAMS; of as many: left, if its TIME within the MEASURE by its "
                + "LONG, downwards, is odd, else right.");
        edges.dueAll("more ahead", Scores.beams(Scores.beam("16 0", "32 0", "8 0"), 1), 2, 1, 1, 0);
        edges.dueAll("more behind", Scores.beams(Scores.beam("8 0", "32 0", "16 0"), 1), 1, 2, 0, 1);
        // TIME 4 by LONG 2 is 2; TIME 5 by 2 is 2, downwards; 6 is 3; 7 is 3, downwards.
        int[][] dues = {{1, 1, 0, 1}, {1, 1, 0, 1}, {1, 1, 1, 0}, {1, 1, 1, 0}, {1, 1, 0, 1}};
        for (int more = 0; more < dues.length; more++) {
            String text = "metre 12 2;split 12;" + Checks.repeated("rest 32;", more) + "note 8 0;note 16 1;note 8 2;";
            edges.dueAll("as many, TIME " + (4 + more), Scores.beams(Checks.setter(text), more + 1), dues[more]);
        }
        String[] aheadOf = {"", "rest 32;", "rest 16;"};
        int[][] duesOf = {{1, 1, 0, 2}, {1, 1, 2, 0}, {1, 1, 0, 2}};
        for (int more = 0; more < aheadOf.length; more++) {
            String text = "metre 12 2;split 12;" + aheadOf[more] + "note 8 0;note 32 1;note 8 2;";
            edges.dueAll("two STUBS, TIME " + (4 + more) + " by LONG 1",
                    Scores.beams(Checks.setter(text), more == 0 ? 1 : 2), duesOf[more]);
        }
        edges.dueAll("two STUBS, TIME 4 by LONG 1", Scores.beams(Scores.beam("8 0", "32 0", "8 0"), 1), 1, 1, 0, 2);
        // LONG goes into a MEASURE an even number of times, so MEASURES ahead change nothing.
        String second = "metre 3 8;rest 8;rest 8;rest 8;rest 32;rest 32;note 8 0;note 16 1;note 8 2;";
        edges.dueAll("TIME 6 of the second MEASURE", Scores.beams(Checks.setter(second), 6), 1, 1, 1, 0);
    }

    void check() {
        heads();
        groups();
        ways();
        settings();
        ideals();
        allowing();
        stems();
        wants();
        slopes();
        staffs();
        best();
        sides();
    }
}
