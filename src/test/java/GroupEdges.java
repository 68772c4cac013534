/** Promises 6 to 20: POSITIONS and what is PUT, GROUPS, SETTINGS, BEST ones, stems, BEAMS, totals. */
final class GroupEdges {
    private static final int NONE = BeamSetter.NONE;
    private static final int NOTHING = BeamSetter.NOTHING;
    private static final int LEAST = Integer.MIN_VALUE;
    private static final int MOST = Integer.MAX_VALUE;
    /** A note of no GROUP, a rest, a note of kind 4, a GROUP of two, a note that is left of it. */
    private static final String APART = "note 8 3;rest 8;note 4 12;note 8 -1;note 8 -2;note 8 -12;";
    private static final int[] NOT_OF_APART = {-1, 6, 64, MOST, LEAST};
    private static final int[] NO_POSITION = {-13, 13, 25, MOST, LEAST};

    private final Edges edges;

    GroupEdges(Edges edges) {
        this.edges = edges;
    }

    // ---- POSITIONS

    private void positions() {
        BeamSetter x = Checks.setter(APART);
        edges.promise(6, "The POSITION of a note;");
        edges.due("the first", 3, x.position(0));
        edges.due("kind 4, the highest", 12, x.position(2));
        edges.due("the last, the lowest", -12, x.position(5));
        x.put(5, 12);
        edges.due("where it is PUT", 12, x.position(5));
        x.undo();
        edges.due("where it was", -12, x.position(5));

        edges.promise(6, "NOTHING: it is none, no such ELEMENT.");
        edges.due("a rest", NOTHING, x.position(1));
        for (int i : NOT_OF_APART) {
            edges.due("position(" + i + ")", NOTHING, x.position(i));
        }
        edges.due("without ELEMENTS", NOTHING, new BeamSetter().position(0));

        edges.promise(7, "1 UP, -1 DOWN of a NOTE of a GROUP; 0: it is of none;");
        edges.due("UP", 1, x.direction(3));
        edges.due("UP", 1, x.direction(4));
        edges.due("of no GROUP, though it has BEAMS", 0, x.direction(0));
        edges.due("a rest", 0, x.direction(1));
        edges.due("kind 4", 0, x.direction(2));
        edges.due("behind the GROUP", 0, x.direction(5));
        x.put(3, 2);
        // 2 and -2: as far, 0 together, the first one above 0.
        edges.due("DOWN, when the other one is PUT", -1, x.direction(4));
        edges.dueAll("KNEED", Scores.directions(Checks.setter(Scores.RISE)), 1, -1);
        edges.dueAll("of which none is ALLOWED", Scores.directions(Checks.setter(Scores.NEVER)), 1, 1, -1, -1);

        edges.promise(7, "NOTHING: no such ELEMENT.");
        for (int i : NOT_OF_APART) {
            edges.due("direction(" + i + ")", NOTHING, x.direction(i));
        }
        edges.due("without ELEMENTS", NOTHING, new BeamSetter().direction(0));
    }

    private void puts() {
        BeamSetter x = Checks.setter(APART);
        edges.promise(8, "A note is PUT at a POSITION: where it was;");
        edges.due("to the highest", 3, x.put(0, 12));
        edges.due("to the lowest", 12, x.put(0, -12));
        edges.due("from the lowest", -12, x.put(0, 0));
        edges.due("kind 4", 12, x.put(2, 11));
        edges.due("of a GROUP", -1, x.put(3, 1));
        edges.due("where it is already", 1, x.put(3, 1));
        edges.due("position(0)", 0, x.position(0));
        edges.due("position(2)", 11, x.position(2));
        edges.due("position(3)", 1, x.position(3));
        edges.due("another one", -2, x.position(4));
        edges.due("all of them can be undone", 6, x.count(9));

        edges.promise(8, "NOTHING: it is no note, no such ELEMENT, POSITION.");
        edges.due("a rest", NOTHING, x.put(1, 0));
        for (int i : NOT_OF_APART) {
            edges.due("put(" + i + ", 0)", NOTHING, x.put(i, 0));
        }
        for (int p : NO_POSITION) {
            edges.due("put(0, " + p + ")", NOTHING, x.put(0, p));
            edges.due("put(-1, " + p + ")", NOTHING, x.put(-1, p));
        }
        edges.due("it is where it was", 0, x.position(0));
        edges.due("nothing more can be undone", 6, x.count(9));
        edges.due("without ELEMENTS", NOTHING, new BeamSetter().put(0, 0));

        edges.promise(9, "The latest PUT is undone: how many more can be;");
        edges.due("where it is already", 5, x.undo());
        edges.due("position(3)", 1, x.position(3));
        edges.due("of a GROUP", 4, x.undo());
        edges.due("position(3)", -1, x.position(3));
        edges.due("kind 4", 3, x.undo());
        edges.due("position(2)", 12, x.position(2));
        edges.due("once", 2, x.undo());
        edges.due("position(0)", -12, x.position(0));
        edges.due("and once more", 1, x.undo());
        edges.due("position(0)", 12, x.position(0));
        edges.due("the last one", 0, x.undo());
        edges.due("position(0)", 3, x.position(0));

        edges.promise(9, "NONE: none.");
        edges.due("all are undone", NONE, x.undo());
        edges.due("once more", NONE, x.undo());
        edges.due("position(0)", 3, x.position(0));
        edges.due("nothing was ever PUT", NONE, new BeamSetter().undo());
        x.put(1, 0);
        edges.due("a refused one", NONE, x.undo());
        x.put(0, 4);
        Checks.say(x, APART);
        edges.due("of the TEXT ahead", NONE, x.undo());
    }

    // ---- GROUPS

    private void groups() {
        edges.promise(10, "Of a GROUP, what 0 its first ELEMENT, 1 how many NOTES, 2 whether it is KNEED (1, 0), 3 XX, 4 "
                + "most BEAMS of a NOTE, 5 how many SETTINGS are ALLOWED, 6 how many of its NOTES are UP.");
        edges.dueAll("DOWN", Scores.groups(Checks.setter(Scores.FLAT), 0), 0, 2, 0, 16, 1, 523, 0);
        edges.dueAll("UP, not the first ELEMENT", Scores.groups(Checks.setter("rest 4;note 8 -1;note 8 -1;"), 0),
                1, 2, 0, 16, 1, 523, 2);
        // L -6 .. 28 and R -28 .. 6: of slopes -8 .. 8 the L that are at both: 35 less how far L + slope would be out.
        edges.dueAll("KNEED", Scores.groups(Checks.setter(Scores.RISE), 0), 0, 2, 1, 16, 1, allowedOfRise(), 1);
        edges.dueAll("none ALLOWED", Scores.groups(Checks.setter(Scores.NEVER), 0), 0, 4, 1, 48, 1, 0, 2);
        edges.due("most BEAMS of the first", 3, Scores.beam("32 0", "8 0", "16 0").group(0, 4));
        edges.due("most BEAMS of the last", 3, Scores.beam("8 0", "16 0", "32 0").group(0, 4));
        edges.due("most BEAMS between", 2, Scores.beam("8 0", "16 0", "8 0").group(0, 4));
        edges.due("64 NOTES", 64, Scores.beam(Scores.many(64, "32 1")).group(0, 1));
        // XX is 63 times 9: level ones alone or sloping, the first LENGTH is 13 .. 44 and so is the last one.
        edges.due("ALLOWED of 64 NOTES", 32 + 2 * (31 + 30 + 29 + 28 + 27 + 26 + 25 + 24),
                Scores.beam(Scores.many(64, "32 0")).group(0, 5));
        edges.due("one alone is ALLOWED", 1, Scores.beam("8 0", "16 10", "8 -10", "8 0").group(0, 5));

        BeamSetter x = Checks.setter(Scores.FLAT);
        edges.promise(10, "IndexOutOfBoundsException: no such GROUP.");
        for (int g : Scores.NO_GROUP) {
            edges.noIndex("group(" + g + ", 0)", () -> x.group(g, 0));
            edges.noIndex("group(" + g + ", 7), ahead of NoSuchElementException", () -> x.group(g, 7));
        }
        edges.noIndex("without GROUPS", () -> Checks.setter("note 8 0;").group(0, 0));
        edges.noIndex("without ELEMENTS", () -> new BeamSetter().group(0, -1));
        BeamSetter y = Checks.setter(Scores.FLAT);
        Checks.say(y, "note 8 0;");
        edges.noIndex("what a TEXT ahead had", () -> y.group(0, 0));

        edges.promise(10, "NoSuchElementException: no such what.");
        int[] others = {-1, 7, 8, MOST, LEAST};
        for (int what : others) {
            edges.noElement("group(0, " + what + ")", () -> x.group(0, what));
        }
    }

    /** UP from -16: L -6 .. 28; DOWN from 16: R -28 .. 6. */
    private static int allowedOfRise() {
        int many = 0;
        for (int l = -6; l <= 28; l++) {
            for (int r = -28; r <= 6; r++) {
                many += Math.abs(l - r) <= 8 ? 1 : 0;
            }
        }
        return many;
    }

    private void wantAndIdeal() {
        BeamSetter x = Checks.setter(APART);
        edges.promise(11, "WANT of a GROUP;");
        edges.due("want(0)", -1, x.want(0));
        edges.due("of RISE", 5, Checks.setter(Scores.RISE).want(0));
        edges.due("of FLAT", 0, Checks.setter(Scores.FLAT).want(0));
        edges.due("none is ALLOWED", 5, Checks.setter(Scores.NEVER).want(0));

        edges.promise(11, "NOTHING: no such GROUP.");
        for (int g : Scores.NO_GROUP) {
            edges.due("want(" + g + ")", NOTHING, x.want(g));
        }
        edges.due("without GROUPS", NOTHING, new BeamSetter().want(0));

        edges.promise(12, "IDEAL of a NOTE of a GROUP; -2: it is of none;");
        edges.due("ideal(3)", 14, x.ideal(3));
        edges.due("none is ALLOWED", 14, Checks.setter(Scores.NEVER).ideal(0));
        edges.due("of no GROUP, though it has BEAMS", -2, x.ideal(0));
        edges.due("a rest", -2, x.ideal(1));
        edges.due("kind 4", -2, x.ideal(2));
        edges.due("behind the GROUP", -2, x.ideal(5));

        edges.promise(12, "NONE: no such ELEMENT.");
        for (int i : NOT_OF_APART) {
            edges.due("ideal(" + i + ")", NONE, x.ideal(i));
        }
        edges.due("without ELEMENTS", NONE, new BeamSetter().ideal(0));
    }

    // ---- SETTINGS

    private void ugliness() {
        BeamSetter x = Checks.setter(Scores.FLAT);
        edges.promise(13, "Of a SETTING, what 0 UGLINESS, 1 STEMS, 2 SLOPE, 3 STAFF; -2: it isn't ALLOWED;");
        edges.dueAll("of RISE", Scores.uglies(Checks.setter(Scores.RISE), -4, 0), 16, 8, 6, 2);
        edges.dueAll("nothing is ugly", Scores.uglies(x, -14, -14), 0, 0, 0, 0);
        edges.dueAll("shortest stems", Scores.uglies(x, -10, -10), 16, 16, 0, 0);
        edges.dueAll("too short", Scores.uglies(x, -10, -9), -2, -2, -2, -2);
        edges.dueAll("longest stems", Scores.uglies(x, -44, -44), 60, 60, 0, 0);
        edges.dueAll("too long", Scores.uglies(x, -44, -45), -2, -2, -2, -2);
        edges.dueAll("on the other side", Scores.uglies(x, 14, 14), -2, -2, -2, -2);
        edges.dueAll("none is", Scores.uglies(Checks.setter(Scores.NEVER), 0, 0), -2, -2, -2, -2);

        edges.promise(13, "NONE: no such GROUP, SETTING, what.");
        for (int g : Scores.NO_GROUP) {
            edges.due("ugliness(" + g + ", -14, -14, 0)", NONE, x.ugliness(g, -14, -14, 0));
        }
        edges.dueAll("too steep", Scores.uglies(x, -10, -19), NONE, NONE, NONE, NONE);
        edges.dueAll("too high", Scores.uglies(x, 61, 60), NONE, NONE, NONE, NONE);
        edges.dueAll("too low", Scores.uglies(x, -60, -61), NONE, NONE, NONE, NONE);
        int[] others = {-1, 4, 5, MOST, LEAST};
        for (int what : others) {
            edges.due("ugliness(0, -14, -14, " + what + ")", NONE, x.ugliness(0, -14, -14, what));
            edges.due("ugliness(0, 0, 0, " + what + ")", NONE, x.ugliness(0, 0, 0, what));
        }
    }

    private void best() {
        BeamSetter x = Checks.setter(Scores.FLAT);
        edges.promise(14, "Of the BEST one, what 0 L, 1 R, 2 UGLINESS, 3 STEMS, 4 SLOPE, 5 STAFF;");
        edges.dueAll("of FLAT", Scores.bests(x, 0), -14, -14, 0, 0, 0, 0);
        edges.dueAll("of RISE", Scores.bests(Checks.setter(Scores.RISE), 0), -4, 0, 16, 8, 6, 2);
        BeamSetter one = Scores.beam("8 0", "16 10", "8 -10", "8 0");
        edges.dueAll("of one alone", Scores.bests(one, 0), Scores.rankeds(one, 0, 0));
        // 64 NOTES of IDEAL LENGTH.
        edges.dueAll("of 64", Scores.bests(Scores.beam(Scores.many(64, "32 0")), 0), -17, -17, 0, 0, 0, 0);

        edges.promise(14, "NOTHING: none is ALLOWED, no such GROUP, what.");
        edges.dueAll("none is ALLOWED", Scores.bests(Checks.setter(Scores.NEVER), 0), NOTHING, NOTHING, NOTHING, NOTHING,
                NOTHING, NOTHING);
        for (int g : Scores.NO_GROUP) {
            edges.due("best(" + g + ", 0)", NOTHING, x.best(g, 0));
        }
        int[] others = {-1, 6, 7, MOST, LEAST};
        for (int what : others) {
            edges.due("best(0, " + what + ")", NOTHING, x.best(0, what));
        }
        edges.due("without GROUPS", NOTHING, new BeamSetter().best(0, 0));

        edges.promise(15, "Of the one of RANK k, what as of best();");
        edges.dueAll("RANK 0", Scores.rankeds(x, 0, 0), -14, -14, 0, 0, 0, 0);
        edges.dueAll("RANK 1", Scores.rankeds(x, 0, 1), -15, -15, 2, 2, 0, 0);
        edges.dueAll("RANK 2", Scores.rankeds(x, 0, 2), -13, -13, 4, 4, 0, 0);
        edges.dueAll("RANK 522", Scores.rankeds(x, 0, 522), -44, -36, 100, 52, 48, 0);

        edges.promise(15, "NOTHING: there is none such, no such GROUP, what.");
        int[] none = {-1, 523, 524, 595, 4096, MOST, LEAST};
        for (int k : none) {
            edges.due("ranked(0, " + k + ", 0)", NOTHING, x.ranked(0, k, 0));
        }
        edges.due("none is ALLOWED", NOTHING, Checks.setter(Scores.NEVER).ranked(0, 0, 0));
        for (int g : Scores.NO_GROUP) {
            edges.due("ranked(" + g + ", 0, 0)", NOTHING, x.ranked(g, 0, 0));
        }
        for (int what : others) {
            edges.due("ranked(0, 0, " + what + ")", NOTHING, x.ranked(0, 0, what));
        }

        edges.promise(16, "RANK of a SETTING; -2: it isn't ALLOWED;");
        edges.due("the BEST", 0, x.rank(0, -14, -14));
        edges.due("the last", 522, x.rank(0, -44, -36));
        edges.due("too short", -2, x.rank(0, -9, -10));
        edges.due("too long", -2, x.rank(0, -45, -44));
        edges.due("high", -2, x.rank(0, 60, 60));
        edges.due("none is ALLOWED", -2, Checks.setter(Scores.NEVER).rank(0, 0, 0));

        edges.promise(16, "NONE: no such GROUP, SETTING.");
        for (int g : Scores.NO_GROUP) {
            edges.due("rank(" + g + ", -14, -14)", NONE, x.rank(g, -14, -14));
        }
        edges.due("too steep", NONE, x.rank(0, -10, -19));
        edges.due("too high", NONE, x.rank(0, 61, 61));
        edges.due("too low", NONE, x.rank(0, -61, -60));
        edges.due("wrapped round", NONE, x.rank(0, LEAST, MOST));
    }

    // ---- stems, BEAMS

    private void stems() {
        edges.promise(17, "LENGTH of the stem of a NOTE by the BEST SETTING of its GROUP as a fraction in lowest terms, what 0 "
                + "above, 1 below (above 0); 2, 3 likewise the height of the beam there;");
        BeamSetter x = Checks.setter("note 16 4;note 16 5;note 16 6;note 16 -12;");
        edges.dueAll("whole, below 0", Scores.stems(x, 0), 12, 1, -4, 1);
        edges.dueAll("a third of XX", Scores.stems(x, 1), 46, 3, -16, 3);
        edges.dueAll("two thirds of XX", Scores.stems(x, 2), 56, 3, -20, 3);
        edges.dueAll("the last", Scores.stems(x, 3), 16, 1, -8, 1);
        // A height of 0 is 0 by 1.
        edges.dueAll("the last of RISE", Scores.stems(Checks.setter(Scores.RISE), 1), 16, 1, 0, 1);
        edges.dueAll("level", Scores.stems(Checks.setter(Scores.FLAT), 1), 14, 1, -14, 1);
        // The BEST is -14, -13; x is 7 of 11: nothing to be lowered.
        edges.dueAll("elevenths", Scores.stems(Checks.setter("wide 8 7;wide 16 4;" + Scores.underOne("8 0", "16 0", "8 1")), 1),
                147, 11, -147, 11);
        // The BEST is -14, -13; x is 16 of 28: -14 and 4 by 7.
        edges.dueAll("sevenths", Scores.stems(Scores.beam("8 0", "16 0", "8 1"), 1), 94, 7, -94, 7);

        edges.promise(17, "NOTHING: it is of no GROUP, none is ALLOWED, no such ELEMENT, what.");
        BeamSetter y = Checks.setter(APART);
        int[] apart = {0, 1, 2, 5};
        for (int i : apart) {
            edges.dueAll("of no GROUP " + i, Scores.stems(y, i), NOTHING, NOTHING, NOTHING, NOTHING);
        }
        edges.dueAll("none is ALLOWED", Scores.stems(Checks.setter(Scores.NEVER), 0), NOTHING, NOTHING, NOTHING, NOTHING);
        for (int i : NOT_OF_APART) {
            edges.due("stem(" + i + ", 0)", NOTHING, y.stem(i, 0));
        }
        int[] others = {-1, 4, 5, MOST, LEAST};
        for (int what : others) {
            edges.due("stem(3, " + what + ")", NOTHING, y.stem(3, what));
        }
        edges.due("without ELEMENTS", NOTHING, new BeamSetter().stem(0, 0));
    }

    private void touchOf(String kind, int p, int q, int end, int k, int want) {
        BeamSetter x = Scores.beam(kind + " " + p, kind + " " + q);
        edges.due("touch(0, " + end + ", " + k + ") of " + kind + ", " + p + " " + q, want, x.touch(0, end, k));
    }

    private void touches() {
        edges.promise(18, "How the k-th BEAM (0 on, the first one at L, at R) at the first NOTE (end 0), the last (1) touches "
                + "by the BEST SETTING: 0 .. 3 its height modulo 4;");
        // The BEST is -4, 0; 3, 0; 1, 1; 7, 5; -3, 0; -2, -10; -9, -9; 9, 14.
        touchOf("8", -8, 8, 0, 0, 0);
        touchOf("8", -8, 8, 1, 0, 0);
        touchOf("8", -4, 5, 0, 0, 3);
        touchOf("8", -4, 5, 1, 0, 0);
        touchOf("8", -5, 6, 0, 0, 1);
        touchOf("8", 6, 9, 0, 0, 1);
        touchOf("8", 6, 9, 1, 0, 0);
        touchOf("32", -8, 2, 0, 0, 2);
        // UP: -2, -5, -8.
        touchOf("32", -8, 2, 0, 1, 3);
        touchOf("32", -8, 2, 0, 2, 0);
        // 3, 3 with two BEAMS: UP 3, 0; DOWN 3, 6.
        touchOf("16", -4, 7, 0, 1, 0);
        touchOf("16", -4, 7, 1, 1, 2);
        // The edges that count: -9, 9.
        touchOf("8", 3, 3, 0, 0, 3);
        touchOf("8", -8, 0, 0, 0, 1);

        edges.promise(18, "-2: none is ALLOWED;");
        BeamSetter never = Checks.setter(Scores.NEVER);
        edges.due("touch(0, 0, 0)", -2, never.touch(0, 0, 0));
        edges.due("touch(0, 1, 0)", -2, never.touch(0, 1, 0));

        edges.promise(18, "-3: it isn't at -9 .. 9;");
        // 10 and -10, then L -14 and R 14; -7 with a next BEAM, UP, at -10, 4 and 7 with one, DOWN, at 10.
        touchOf("8", 0, 9, 0, 0, -3);
        touchOf("8", 1, 6, 0, 0, -3);
        touchOf("8", 0, 0, 0, 0, -3);
        touchOf("8", -8, 0, 1, 0, -3);
        touchOf("16", -9, 2, 0, 1, -3);
        touchOf("16", -5, 9, 1, 1, -3);

        edges.promise(18, "NONE: no such GROUP, end, k below 0, not so many BEAMS there.");
        BeamSetter x = Scores.beam("16 0", "8 0");
        for (int g : Scores.NO_GROUP) {
            edges.due("touch(" + g + ", 0, 0)", NONE, x.touch(g, 0, 0));
        }
        int[] ends = {-1, 2, MOST, LEAST};
        for (int end : ends) {
            edges.due("touch(0, " + end + ", 0)", NONE, x.touch(0, end, 0));
        }
        edges.due("the second of two BEAMS", -3, x.touch(0, 0, 1));
        int[] beyond = {-1, 2, 3, MOST, LEAST};
        for (int k : beyond) {
            edges.due("touch(0, 0, " + k + ")", NONE, x.touch(0, 0, k));
        }
        edges.due("the only BEAM", -3, x.touch(0, 1, 0));
        edges.due("the second of one BEAM", NONE, x.touch(0, 1, 1));
        edges.due("the third of three", -3, Scores.beam("32 0", "32 0").touch(0, 1, 2));
        edges.due("the fourth of three", NONE, Scores.beam("32 0", "32 0").touch(0, 1, 3));
        edges.due("none is ALLOWED, not so many", NONE, never.touch(0, 0, 1));
    }

    private void beams() {
        BeamSetter x = Checks.setter(APART);
        edges.promise(19, "Of a NOTE of a GROUP, what 0 LEFT, 1 RIGHT, 2 STUBS to the left, 3 to the right; -2: it is of none;");
        edges.dueAll("the first", Scores.beams(x, 3), 0, 1, 0, 0);
        edges.dueAll("the last", Scores.beams(x, 4), 1, 0, 0, 0);
        edges.dueAll("STUBS", Scores.beams(Scores.beam("32 0", "8 0"), 0), 0, 1, 0, 2);
        edges.dueAll("STUBS", Scores.beams(Scores.beam("8 0", "16 0"), 1), 1, 0, 1, 0);
        edges.dueAll("none is ALLOWED", Scores.beams(Checks.setter(Scores.NEVER), 1), 1, 1, 0, 0);
        edges.dueAll("of no GROUP, though it has BEAMS", Scores.beams(x, 0), -2, -2, -2, -2);
        edges.dueAll("a rest", Scores.beams(x, 1), -2, -2, -2, -2);
        edges.dueAll("kind 4", Scores.beams(x, 2), -2, -2, -2, -2);
        edges.dueAll("behind the GROUP", Scores.beams(x, 5), -2, -2, -2, -2);

        edges.promise(19, "NONE: no such ELEMENT, what.");
        for (int i : NOT_OF_APART) {
            edges.due("beams(" + i + ", 0)", NONE, x.beams(i, 0));
        }
        int[] others = {-1, 4, 5, MOST, LEAST};
        for (int what : others) {
            edges.due("beams(3, " + what + ")", NONE, x.beams(3, what));
            edges.due("of none, beams(0, " + what + ")", NONE, x.beams(0, what));
        }
        edges.due("without ELEMENTS", NONE, new BeamSetter().beams(0, 0));
    }

    private void totals() {
        edges.promise(20, "What 0 UGLINESS of all BEST ones together (GROUPS of which none is ALLOWED aside); 1 how many "
                + "GROUPS are aside;");
        // A PART is a BEAT of kind 2: 16.
        BeamSetter x = Checks.setter("knee 4;metre 4 2;" + Scores.RISE + "rest 4;note 8 -6;note 8 -2;note 8 2;note 8 6;"
                + Scores.RISE);
        edges.dueAll("16 twice, one aside", Scores.totals(x), 32, 1, 0, 3);
        edges.dueAll("one alone, aside", Scores.totals(Checks.setter(Scores.NEVER)), 0, 1, -2, 1);
        edges.dueAll("two, aside", Scores.totals(Checks.setter(Scores.NEVER + "note 8 -6;note 8 -2;note 8 2;note 8 6;")),
                0, 2, -2, 2);
        edges.dueAll("without GROUPS", Scores.totals(Checks.setter("note 8 0;")), 0, 0, -2, 0);
        edges.dueAll("without ELEMENTS", Scores.totals(new BeamSetter()), 0, 0, -2, 0);

        edges.promise(20, "2 the GROUP of the most UGLINESS, the first (-2: none); 3 KNEED ones;");
        edges.dueAll("the first of 0 and 0", Scores.totals(Checks.setter(Scores.FLAT + Scores.FLAT)), 0, 0, 0, 0);
        edges.dueAll("the second of 0, 16, 16", Scores.totals(Checks.setter(Scores.FLAT + Scores.RISE + Scores.RISE)),
                32, 0, 1, 2);
        edges.dueAll("the first of 16, 0, 16", Scores.totals(Checks.setter(Scores.RISE + Scores.FLAT + Scores.RISE)),
                32, 0, 0, 2);
        edges.dueAll("the last of 0, 0, 16", Scores.totals(Checks.setter(Scores.FLAT + Scores.FLAT + Scores.RISE)),
                16, 0, 2, 1);
        edges.due("one that is aside isn't it", 1, Checks.setter(Scores.NEVER + Scores.FLAT).total(2));
        edges.due("a KNEED one that is aside", 1, Checks.setter(Scores.NEVER + Scores.FLAT).total(3));

        edges.promise(20, "NONE for another what.");
        int[] others = {-1, 4, 5, MOST, LEAST};
        for (int what : others) {
            edges.due("total(" + what + ")", NONE, x.total(what));
            edges.due("total(" + what + ") without GROUPS", NONE, new BeamSetter().total(what));
        }
    }

    void check() {
        positions();
        puts();
        groups();
        wantAndIdeal();
        ugliness();
        best();
        stems();
        touches();
        beams();
        totals();
    }
}
