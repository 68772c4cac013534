/** Part 2 of the terms from the STRETCHES on, promises 21 to 37: what would be, other SETTINGS, single notes. */
final class WhatIfEdges {
    private static final int NONE = BeamSetter.NONE;
    private static final int NOTHING = BeamSetter.NOTHING;
    private static final int LEAST = Integer.MIN_VALUE;
    private static final int MOST = Integer.MAX_VALUE;
    /** UP at 0: 10 at least; DOWN at 6: 2 at most. So 10, 2 alone is ALLOWED, and none is with 5 for 6. */
    private static final String STEEP = "knee 4;note 8 0;note 8 6;";
    /** BEAMS 2 2 1 2 3 3 2 1. */
    private static final String[] MANY = {"16 0", "16 1", "8 2", "16 3", "32 1", "32 2", "16 -1", "8 0"};
    /** A GROUP, a note of no GROUP, a rest, a note of kind 4. */
    private static final String APART = "note 8 0;note 8 0;note 8 3;rest 8;note 4 1;";
    private static final int[] NOT_OF_APART = {-1, 5, 64, MOST, LEAST};
    private static final int[] NO_POSITION = {-13, 13, 25, MOST, LEAST};
    /** What is neither what of best() nor of calls that have fewer. */
    private static final int[] NO_WHAT = {-1, 6, 7, MOST, LEAST};

    private final Edges edges;

    WhatIfEdges(Edges edges) {
        this.edges = edges;
    }

    private static int[] ifPuts(BeamSetter x, int i, int position) {
        int[] all = new int[6];
        for (int what = 0; what < 6; what++) {
            all[what] = x.ifPut(i, position, what);
        }
        return all;
    }

    private static int[] ifShifteds(BeamSetter x, int t) {
        return new int[] {x.ifShifted(t, 0), x.ifShifted(t, 1), x.ifShifted(t, 2), x.ifShifted(t, 3)};
    }

    // ---- one note elsewhere

    private void ifPut() {
        edges.promise(21, "What best() would tell of the GROUP of NOTE i, were that one at a POSITION;");
        BeamSetter x = Checks.setter(APART);
        edges.dueAll("where it is", ifPuts(x, 0, 0), -14, -14, 0, 0, 0, 0);
        // As RISE: the other one at 8.
        edges.dueAll("a knee", ifPuts(Checks.setter("note 8 0;note 8 8;"), 0, -8), -4, 0, 16, 8, 6, 2);
        edges.dueAll("no knee any more", ifPuts(Checks.setter("note 8 -8;note 8 0;"), 0, 0), -14, -14, 0, 0, 0, 0);
        for (int p = -12; p <= 12; p++) {
            BeamSetter put = Checks.setter(APART);
            put.put(1, p);
            edges.dueAll("ifPut(1, " + p + ")", ifPuts(x, 1, p), Scores.bests(put, 0));
        }
        // STEMS 4 too short twice each, SLOPE -8 for 5 and 20, R at 2.
        edges.dueAll("the only one", ifPuts(Checks.setter("knee 4;note 8 0;note 8 5;"), 1, 6), 10, 2, 139, 16, 98, 25);

        edges.promise(21, "NOTHING: it is of none, no such ELEMENT, POSITION, what, none would be ALLOWED.");
        int[] apart = {2, 3, 4};
        for (int i : apart) {
            edges.due("of no GROUP " + i, NOTHING, x.ifPut(i, 0, 0));
        }
        for (int i : NOT_OF_APART) {
            edges.due("ifPut(" + i + ", 0, 0)", NOTHING, x.ifPut(i, 0, 0));
        }
        for (int p : NO_POSITION) {
            edges.due("ifPut(0, " + p + ", 0)", NOTHING, x.ifPut(0, p, 0));
        }
        for (int what : NO_WHAT) {
            edges.due("ifPut(0, 0, " + what + ")", NOTHING, x.ifPut(0, 0, what));
        }
        BeamSetter steep = Checks.setter(STEEP);
        edges.due("the only one", 139, steep.ifPut(1, 6, 2));
        edges.due("none would be ALLOWED", NOTHING, steep.ifPut(1, 5, 2));
        edges.due("none would be ALLOWED", NOTHING, steep.ifPut(0, 1, 0));
        edges.due("without ELEMENTS", NOTHING, new BeamSetter().ifPut(0, 0, 0));
    }

    private void wishOf(int own, int other, int want) {
        edges.due("wish(0) of " + own + " " + other, want, Checks.setter("note 8 " + own + ";note 8 " + other + ";").wish(0));
    }

    private void wish() {
        edges.promise(22, "The POSITION -12 .. 12 of NOTE i by which its GROUP would have the least UGLINESS (of its BEST), of "
                + "several that nearest to its own, the lower one;");
        wishOf(0, 0, 0);
        wishOf(12, 0, 0);
        wishOf(-12, 0, 0);
        wishOf(12, 12, 12);
        wishOf(-12, -12, -12);
        // UGLINESS 2 at -9, -8, -6.
        wishOf(-7, -6, -8);
        wishOf(-4, -6, -6);
        wishOf(-12, -6, -9);
        wishOf(-8, -6, -8);
        // UGLINESS 2 at 6, 8, 9.
        wishOf(7, 6, 6);
        wishOf(12, 6, 9);
        wishOf(-12, 6, 6);
        BeamSetter tied = Checks.setter("note 8 -7;note 8 -6;");
        edges.dueAll("as ugly", new int[] {tied.ifPut(0, -9, 2), tied.ifPut(0, -8, 2), tied.ifPut(0, -6, 2)}, 2, 2, 2);
        BeamSetter never = Checks.setter(Scores.NEVER);
        edges.due("the lowest there is", -12, never.wish(0));
        edges.due("the highest there is", 12, never.wish(3));
        BeamSetter far = Scores.beamOfKnee(4, "32 -12", "16 12");
        edges.due("from the lowest to the highest", 12, far.wish(0));
        edges.due("from the highest to the lowest", -12, far.wish(1));
        // 13, -14 would be less ugly still, were there such POSITIONS.
        edges.due("not beyond the highest", 10, Scores.beamOfKnee(23, "8 10", "16 12").wish(1));
        edges.due("not beyond the lowest", -12, Scores.beamOfKnee(11, "32 -1", "8 2", "8 11", "16 -12").wish(0));
        for (int p = -12; p <= 12; p++) {
            for (int q = -12; q <= 12; q++) {
                BeamSetter x = Scores.beamOfKnee(9, "8 " + p, "16 " + q);
                edges.due("wish(0) of " + p + " " + q, wished(x, 0), x.wish(0));
            }
        }

        edges.promise(22, "NOTHING: it is of none, no such ELEMENT, by none one would be ALLOWED.");
        BeamSetter x = Checks.setter(APART);
        int[] apart = {2, 3, 4};
        for (int i : apart) {
            edges.due("of no GROUP " + i, NOTHING, x.wish(i));
        }
        for (int i : NOT_OF_APART) {
            edges.due("wish(" + i + ")", NOTHING, x.wish(i));
        }
        // UP, 12 asks for a beam at 34 at least, -12 for one at 20 at most; DOWN for -20 at least, -34 at most.
        edges.due("by none", NOTHING, Scores.beamOfKnee(24, "8 12", "8 0", "8 -12", "8 0").wish(3));
        edges.due("without ELEMENTS", NOTHING, new BeamSetter().wish(0));
    }

    /** From far to near, of as near the higher one first: the later one stays, if it is not uglier. */
    private static int wished(BeamSetter x, int i) {
        int found = NOTHING;
        int least = MOST;
        for (int away = 24; away >= 0; away--) {
            for (int sign = 1; sign >= -1; sign -= 2) {
                int ugly = x.ifPut(i, x.position(i) + sign * away, 2);
                if (ugly != NOTHING && ugly <= least) {
                    least = ugly;
                    found = x.position(i) + sign * away;
                }
            }
        }
        return found;
    }

    /** The t with the fewest aside, then the least UGLINESS, then nearest to 0, then lower. */
    private static int shifted(BeamSetter x) {
        int found = NOTHING;
        long least = Long.MAX_VALUE;
        for (int away = 12; away >= 0; away--) {
            for (int sign = 1; sign >= -1; sign -= 2) {
                int aside = x.ifShifted(sign * away, 1);
                long worth = aside * 1000000L + x.ifShifted(sign * away, 0);
                if (aside != NONE && worth <= least) {
                    least = worth;
                    found = sign * away;
                }
            }
        }
        return found;
    }

    // ---- all notes elsewhere

    private void ifShifted() {
        edges.promise(23, "What total() would tell, were all notes t (-12 .. 12) higher;");
        BeamSetter x = Checks.setter(Scores.FLAT + Scores.FLAT);
        edges.dueAll("as it is", ifShifteds(x, 0), Scores.totals(x));
        for (int t = -12; t <= 12; t++) {
            BeamSetter other = Checks.setter(("note 8 " + t + ";note 8 " + t + ";").repeat(2));
            edges.dueAll(t + " higher", ifShifteds(x, t), Scores.totals(other));
        }
        BeamSetter low = Checks.setter("note 8 -12;note 8 0;rest 4;rest 4;rest 4;");
        edges.dueAll("12 higher, rests don't count", ifShifteds(low, 12), Scores.totals(Checks.setter("note 8 0;note 8 12;")));
        edges.dueAll("RISE 4 higher", ifShifteds(Checks.setter(Scores.RISE), 4),
                Scores.totals(Checks.setter("note 8 -4;note 8 12;")));
        edges.dueAll("none ALLOWED", ifShifteds(Checks.setter(Scores.NEVER), 6), 0, 1, -2, 1);

        edges.promise(23, "NONE: no such t, what, a note would be beyond -12 .. 12;");
        int[] none = {-13, 13, 24, MOST, LEAST};
        for (int t : none) {
            edges.due("ifShifted(" + t + ", 0)", NONE, x.ifShifted(t, 0));
            edges.due("ifShifted(" + t + ", 0) without notes", NONE, new BeamSetter().ifShifted(t, 0));
        }
        int[] others = {-1, 4, 5, MOST, LEAST};
        for (int what : others) {
            edges.due("ifShifted(0, " + what + ")", NONE, x.ifShifted(0, what));
        }
        // Of kind 4, and of no GROUP.
        BeamSetter high = Checks.setter(Scores.FLAT + "note 4 11;note 8 -10;");
        edges.due("1 higher", 1, high.ifShifted(1, 0) == NONE ? 0 : 1);
        edges.due("2 higher, kind 4 would be beyond", NONE, high.ifShifted(2, 0));
        edges.due("2 lower", 1, high.ifShifted(-2, 0) == NONE ? 0 : 1);
        edges.due("3 lower, the last one would be beyond", NONE, high.ifShifted(-3, 0));
        edges.due("12 lower, of a GROUP beyond", NONE, Checks.setter("note 8 0;note 8 -1;").ifShifted(-12, 0));

        edges.promise(23, "of what 2: -2 as there.");
        edges.due("without GROUPS", -2, Checks.setter("note 8 0;").ifShifted(12, 2));
        edges.due("without ELEMENTS", -2, new BeamSetter().ifShifted(12, 2));
        edges.due("all aside", -2, Checks.setter(Scores.NEVER).ifShifted(-6, 2));
        edges.due("a note would be beyond, NONE goes first", NONE, Checks.setter(Scores.NEVER).ifShifted(7, 2));
    }

    private void shiftOf(String what, int want, String text) {
        edges.due("shift(), " + what, want, Checks.setter(text).shift());
    }

    private void shift() {
        edges.promise(24, "The t -12 .. 12 by which no note would be beyond -12 .. 12 and total(1) would be least, of these "
                + "total(0), of these t nearest to 0, the lower one;");
        shiftOf("not ugly where it is", 0, Scores.FLAT);
        // At -2 .. 2 two that are alike have IDEAL stems to a beam at 10 and more, which doesn't count: UGLINESS 0.
        shiftOf("to 2", -7, "note 8 9;note 8 9;");
        shiftOf("to -2", 10, "note 8 -12;note 8 -12;");
        shiftOf("the only t", 0, "note 8 12;note 8 12;note 4 -12;");
        shiftOf("the farthest t of what is left", -10, "note 8 12;note 8 12;note 4 -2;");
        // 2 of UGLINESS where it is, and no less up to 9 lower.
        shiftOf("that one would be beyond", 0, "note 8 12;note 8 12;note 4 -3;");
        // By 12 higher UGLINESS is 3, by 13 higher it would be 1.
        shiftOf("12 higher, though 13 were better", 12, Scores.underOne("16 -12", "32 -10"));
        edges.due("13 higher were better", 1, Scores.beam("16 1", "32 3").total(0));
        edges.due("12 higher", 3, Scores.beam("16 -12", "32 -10").ifShifted(12, 0));
        BeamSetter tied = Checks.setter("note 8 3;note 8 -3;");
        edges.due("as ugly, as near", tied.ifShifted(-5, 0), tied.ifShifted(5, 0));
        edges.due("the lower one", -5, tied.shift());
        // By -6 .. 6 all are aside.
        shiftOf("all are aside by each t", 0, Scores.NEVER);
        // UP none is ALLOWED, DOWN, by 1 higher and more, some are.
        BeamSetter aside = Checks.setter("knee 24;metre 1 2;note 8 -8;note 32 8;note 8 -8;");
        edges.due("one aside, UGLINESS 0", 1, aside.total(1));
        edges.due("fewer aside goes first", 0, aside.ifShifted(aside.shift(), 1));
        for (int t = -12; t <= 12; t++) {
            boolean is = aside.ifShifted(t, 1) == 0;
            edges.due("of those with fewer aside the least UGLINESS, " + t, 1,
                    !is || aside.ifShifted(t, 0) >= aside.ifShifted(aside.shift(), 0) ? 1 : 0);
        }

        for (int p = -12; p <= 12; p++) {
            for (int q = -12; q <= 12; q++) {
                BeamSetter x = Scores.beamOfKnee(9, "8 " + p, "8 " + q);
                edges.due("shift() of " + p + " " + q, shifted(x), x.shift());
            }
        }

        edges.promise(24, "NOTHING: there are no GROUPS.");
        edges.due("notes of none", NOTHING, Checks.setter("note 8 5;rest 8;note 4 1;note 16 2;").shift());
        edges.due("rests alone", NOTHING, Checks.setter("rest 8;rest 8;").shift());
        edges.due("without ELEMENTS", NOTHING, new BeamSetter().shift());
    }

    private void mirrored() {
        edges.promise(25, "Whether the BEST one of a GROUP, were all its POSITIONS turned (p: 0 less p), would have L, R turned "
                + "so (1, 0);");
        edges.due("RISE", 1, Checks.setter(Scores.RISE).mirrored(0));
        edges.due("UP and DOWN", 1, Checks.setter("note 8 -3;note 8 -1;").mirrored(0));
        // All at 0: DOWN, turned or not.
        edges.due("FLAT", 0, Checks.setter(Scores.FLAT).mirrored(0));
        edges.due("0, as far above as below", 0, Scores.beam("8 0", "8 4", "8 -4", "8 0").mirrored(0));
        edges.due("4, as far below", 1, Scores.beam("8 4", "8 -4").mirrored(0));
        // Of gaps as near to 0 the lower one is that of the knee, turned or not.
        edges.due("another knee", 0, Scores.beam("16 0", "16 10", "16 -10", "16 10").mirrored(0));

        edges.promise(25, "-2: none is ALLOWED, or none would be;");
        edges.due("NEVER", -2, Checks.setter(Scores.NEVER).mirrored(0));
        BeamSetter is = Scores.beam("8 0", "16 10", "8 -10", "8 0");
        edges.due("one is ALLOWED", 1, is.group(0, 5));
        edges.due("none would be", -2, is.mirrored(0));
        BeamSetter would = Scores.beam("8 0", "16 -10", "8 10", "8 0");
        edges.due("none is ALLOWED", 0, would.group(0, 5));
        edges.due("one would be", -2, would.mirrored(0));

        edges.promise(25, "NONE: no such GROUP.");
        for (int g : Scores.NO_GROUP) {
            edges.due("mirrored(" + g + ")", NONE, Checks.setter(Scores.FLAT).mirrored(g));
            edges.due("mirrored(" + g + "), none is ALLOWED", NONE, Checks.setter(Scores.NEVER).mirrored(g));
        }
        edges.due("without GROUPS", NONE, new BeamSetter().mirrored(0));
    }

    // ---- another KNEE, other PARTS

    private void ifKnee() {
        edges.promise(26, "What total() would tell, were KNEE n (4 .. 24);");
        // Gaps of 16, 4 and 24.
        BeamSetter x = Checks.setter("knee 10;" + Scores.RISE + "note 8 0;note 8 4;note 8 -12;note 8 12;");
        edges.due("4", 3, x.ifKnee(4, 3));
        edges.due("5", 2, x.ifKnee(5, 3));
        edges.due("16", 2, x.ifKnee(16, 3));
        edges.due("17", 1, x.ifKnee(17, 3));
        edges.due("24", 1, x.ifKnee(24, 3));
        // UP at 0, DOWN at 4: none is ALLOWED.
        edges.due("aside by 4", 1, x.ifKnee(4, 1));
        edges.due("aside by 5", 0, x.ifKnee(5, 1));
        for (int n = 4; n <= 24; n++) {
            BeamSetter y = Checks.setter("knee " + n + ";" + Scores.RISE + "note 8 0;note 8 4;note 8 -12;note 8 12;");
            int[] got = {x.ifKnee(n, 0), x.ifKnee(n, 1), x.ifKnee(n, 2), x.ifKnee(n, 3)};
            edges.dueAll("ifKnee(" + n + ")", got, Scores.totals(y));
        }
        edges.due("KNEE is as it was", 10, x.count(7));
        edges.due("without GROUPS", -2, new BeamSetter().ifKnee(4, 2));

        edges.promise(26, "NONE: no such n, what.");
        int[] none = {-1, 0, 3, 25, MOST, LEAST};
        for (int n : none) {
            edges.due("ifKnee(" + n + ", 0)", NONE, x.ifKnee(n, 0));
            edges.due("ifKnee(" + n + ", 2) without GROUPS", NONE, new BeamSetter().ifKnee(n, 2));
        }
        int[] others = {-1, 4, 5, MOST, LEAST};
        for (int what : others) {
            edges.due("ifKnee(9, " + what + ")", NONE, x.ifKnee(9, what));
        }
    }

    private void ifParts() {
        edges.promise(27, "How many GROUPS there would be, were PARTS all n BEATS long (the last one shorter, perhaps), n 1 .. "
                + "12;");
        // MEASURES of six, eleven NOTES: 6 and 5. By 2: 2 2 2, 2 2 1; by 4: 4 2, 4 1; by 5: 5 1, 5.
        BeamSetter x = Checks.setter("metre 6 8;split 1 2 3;" + Checks.repeated("note 8 1;", 11));
        int[] want = {0, 5, 4, 3, 2, 2, 2, 2, 2, 2, 2, 2};
        for (int n = 1; n <= 12; n++) {
            edges.due("ifParts(" + n + ")", want[n - 1], x.ifParts(n));
        }
        edges.due("GROUPS are as they were", 4, x.count(3));
        edges.due("PARTS are as they were", 3, x.count(8));
        BeamSetter all = Checks.setter("metre 12 4;" + Checks.repeated("note 8 1;", 24));
        edges.due("12 of 12", 1, all.ifParts(12));
        edges.due("11 of 12, and 1", 2, all.ifParts(11));
        edges.due("1 of 12", 12, all.ifParts(1));
        edges.due("2 of 1", 1, Checks.setter("metre 1 4;" + Scores.FLAT).ifParts(2));
        edges.due("1 of 1", 1, Checks.setter("metre 1 4;" + Scores.FLAT).ifParts(1));
        edges.due("without ELEMENTS", 0, new BeamSetter().ifParts(1));
        edges.due("the most there are", 32, Checks.setter("metre 2 4;split 2;" + Checks.repeated("note 8 1;", 64)).ifParts(1));

        edges.promise(27, "NONE: no such n.");
        int[] none = {-1, 0, 13, MOST, LEAST};
        for (int n : none) {
            edges.due("ifParts(" + n + ")", NONE, x.ifParts(n));
            edges.due("ifParts(" + n + ") without ELEMENTS", NONE, new BeamSetter().ifParts(n));
        }
    }

    // ---- notes of no GROUP

    private void alone() {
        edges.promise(28, "Notes that have BEAMS and are of no GROUP, what 0 how many, 1 the first (-2: none);");
        BeamSetter x = Checks.setter("rest 8;note 16 1;rest 16;note 4 1;" + Scores.FLAT + "note 8 2;rest 8;note 32 0;");
        edges.due("alone(0)", 3, x.alone(0));
        edges.due("alone(1)", 1, x.alone(1));
        edges.due("ELEMENT 0", 0, Checks.setter("note 8 1;rest 8;").alone(1));
        edges.due("of GROUPS alone, alone(0)", 0, Checks.setter(Scores.FLAT).alone(0));
        edges.due("of GROUPS alone, alone(1)", -2, Checks.setter(Scores.FLAT).alone(1));
        edges.due("of kind 4 alone, alone(0)", 0, Checks.setter("note 4 1;rest 8;").alone(0));
        edges.due("of kind 4 alone, alone(1)", -2, Checks.setter("note 4 1;rest 8;").alone(1));
        edges.due("all 64", 64, Checks.setter("metre 1 8;" + Checks.repeated("note 8 1;", 64)).alone(0));
        edges.due("without ELEMENTS, alone(0)", 0, new BeamSetter().alone(0));
        edges.due("without ELEMENTS, alone(1)", -2, new BeamSetter().alone(1));

        edges.promise(28, "NONE for another what.");
        int[] others = {-1, 2, 3, MOST, LEAST};
        for (int what : others) {
            edges.due("alone(" + what + ")", NONE, x.alone(what));
            edges.due("alone(" + what + ") of none", NONE, new BeamSetter().alone(what));
        }
    }

    private void singleOf(String kind, int p, int way, int length, int end) {
        BeamSetter x = Checks.setter("note " + kind + " " + p + ";");
        edges.dueAll("single of " + kind + " at " + p, new int[] {x.single(0, 0), x.single(0, 1), x.single(0, 2)},
                way, length, end);
    }

    private void single() {
        edges.terms(2, "A SINGLE note (of no GROUP): DOWN, if its POSITION is 0 or more, else UP; its LENGTH is what IDEAL would "
                + "be (of kind 4 as of 1 BEAM).");
        singleOf("4", 0, -1, 14, -14);
        singleOf("4", -1, 1, 14, 12);
        singleOf("4", 7, -1, 14, 0);
        singleOf("4", 8, -1, 16, 0);
        singleOf("4", -7, 1, 14, 0);
        singleOf("4", -8, 1, 16, 0);
        singleOf("8", 12, -1, 24, 0);
        singleOf("8", -12, 1, 24, 0);
        singleOf("16", 7, -1, 15, -1);
        singleOf("16", -8, 1, 16, 0);
        singleOf("32", 8, -1, 17, -1);
        singleOf("32", -9, 1, 18, 0);

        edges.promise(36, "Of a SINGLE note, what 0 its way (1 UP, -1 DOWN), 1 its LENGTH, 2 the height at which its stem ends;");
        singleOf("16", 0, -1, 15, -15);
        singleOf("32", -1, 1, 17, 15);
        BeamSetter x = Checks.setter(APART);
        edges.dueAll("with a GROUP ahead", new int[] {x.single(2, 0), x.single(2, 1), x.single(2, 2)}, -1, 14, -8);
        x.put(2, -2);
        edges.dueAll("where it is PUT", new int[] {x.single(2, 0), x.single(2, 1), x.single(2, 2)}, 1, 14, 10);

        edges.promise(36, "NOTHING: it is none, no such ELEMENT, what.");
        edges.due("of a GROUP", NOTHING, x.single(0, 0));
        edges.due("the last of a GROUP", NOTHING, x.single(1, 1));
        edges.due("a rest", NOTHING, x.single(3, 0));
        for (int i : NOT_OF_APART) {
            edges.due("single(" + i + ", 0)", NOTHING, x.single(i, 0));
        }
        int[] others = {-1, 3, 4, MOST, LEAST};
        for (int what : others) {
            edges.due("single(2, " + what + ")", NOTHING, x.single(2, what));
        }
        edges.due("without ELEMENTS", NOTHING, new BeamSetter().single(0, 0));
    }

    // ---- STRETCHES

    private static int[] stretchOf(BeamSetter x, int k, int i) {
        return new int[] {x.stretch(0, k, i, 0), x.stretch(0, k, i, 1), x.stretch(0, k, i, 2)};
    }

    private void stretches() {
        edges.terms(2, "STRETCHES of BEAM k (1 .. 3) of a GROUP: from a NOTE on, as long as RIGHT is k or more, to the one "
                + "behind; numbered as they come.");
        // X 0 12 24 40 52 61 70 82, RIGHT 2 1 1 2 3 2 1 0.
        BeamSetter x = Scores.beam(MANY);
        edges.dueAll("stretches", new int[] {x.stretches(0, 1), x.stretches(0, 2), x.stretches(0, 3)}, 1, 2, 1);
        edges.dueAll("BEAM 1", stretchOf(x, 1, 0), 0, 7, 82);
        edges.dueAll("BEAM 2", stretchOf(x, 2, 0), 0, 1, 12);
        edges.dueAll("BEAM 2, the next", stretchOf(x, 2, 1), 3, 6, 30);
        edges.dueAll("BEAM 3", stretchOf(x, 3, 0), 4, 5, 9);

        edges.promise(29, "How many STRETCHES of BEAM k a GROUP has;");
        edges.due("none of BEAM 2", 0, Checks.setter(Scores.FLAT).stretches(0, 2));
        edges.due("STUBS make none", 0, Scores.beam("8 0", "32 0", "8 0").stretches(0, 2));
        edges.due("two with one NOTE between", 2, Scores.beam("16 0", "16 0", "8 0", "16 0", "16 0").stretches(0, 2));
        edges.due("many", 21, Scores.beam(thirds()).stretches(0, 2));
        BeamSetter next = Checks.setter(Checks.repeated("note 16 0;", 12));
        for (int g = 0; g < 3; g++) {
            edges.due("of each GROUP its own, " + g, 1, next.stretches(g, 2));
            edges.due("no more than its own, " + g, -2, next.stretch(g, 2, 1, 0));
        }
        edges.due("of three BEAMS, BEAM 3", 1, Scores.beam("32 0", "32 0").stretches(0, 3));
        edges.due("none is ALLOWED", 1, Checks.setter(Scores.NEVER).stretches(0, 1));

        edges.promise(29, "NONE: no such GROUP, k.");
        for (int g : Scores.NO_GROUP) {
            edges.due("stretches(" + g + ", 1)", NONE, x.stretches(g, 1));
            edges.due("stretch(" + g + ", 1, 0, 0)", NONE, x.stretch(g, 1, 0, 0));
        }
        int[] none = {-1, 0, 4, MOST, LEAST};
        for (int k : none) {
            edges.due("stretches(0, " + k + ")", NONE, x.stretches(0, k));
        }

        edges.promise(30, "Of the i-th STRETCH (0 on) of BEAM k of a GROUP, what 0 its first ELEMENT, 1 its last one, 2 X of the "
                + "last less X of the first;");
        BeamSetter y = Checks.setter("rest 4;note 16 0;note 16 0;note 16 0;note 16 0;note 16 0;note 16 0;note 8 1;");
        edges.dueAll("up to the GROUP's end", stretchOf(y, 2, 0), 1, 4, 36);
        edges.due("of the next GROUP", 5, y.stretch(1, 2, 0, 0));
        edges.due("its last", 6, y.stretch(1, 2, 0, 1));
        edges.due("to the last ELEMENT", 7, y.stretch(1, 1, 0, 1));
        edges.dueAll("all 64", stretchOf(Scores.beam(Scores.many(64, "32 1")), 3, 0), 0, 63, 63 * 9);

        edges.promise(30, "-2: there are not so many;");
        edges.due("stretch(0, 1, 1, 0)", -2, x.stretch(0, 1, 1, 0));
        edges.due("stretch(0, 2, 2, 2)", -2, x.stretch(0, 2, 2, 2));
        edges.due("stretch(0, 3, 1, 1)", -2, x.stretch(0, 3, 1, 1));
        edges.due("stretch(0, 1, most, 0)", -2, x.stretch(0, 1, MOST, 0));
        edges.due("none of BEAM 2", -2, Checks.setter(Scores.FLAT).stretch(0, 2, 0, 0));

        edges.promise(30, "NONE: no such GROUP, k, what, i below 0.");
        for (int g : Scores.NO_GROUP) {
            edges.due("stretch(" + g + ", 1, 9, 0)", NONE, x.stretch(g, 1, 9, 0));
        }
        for (int k : none) {
            edges.due("stretch(0, " + k + ", 0, 0)", NONE, x.stretch(0, k, 0, 0));
            edges.due("stretch(0, " + k + ", 9, 0)", NONE, x.stretch(0, k, 9, 0));
        }
        int[] others = {-1, 3, 4, MOST, LEAST};
        for (int what : others) {
            edges.due("stretch(0, 1, 0, " + what + ")", NONE, x.stretch(0, 1, 0, what));
            edges.due("stretch(0, 1, 9, " + what + ")", NONE, x.stretch(0, 1, 9, what));
        }
        edges.due("stretch(0, 1, -1, 0)", NONE, x.stretch(0, 1, -1, 0));
        edges.due("stretch(0, 1, least, 0)", NONE, x.stretch(0, 1, LEAST, 0));
    }

    /** 64 NOTES of kinds 16 16 8, 16 16 8 .. 16. */
    private static String[] thirds() {
        String[] all = Scores.many(64, "16 0");
        for (int i = 2; i < all.length; i += 3) {
            all[i] = "8 0";
        }
        return all;
    }

    // ---- LEVEL, CUT

    private static int[] levels(BeamSetter x, int g) {
        return new int[] {x.level(g, 0), x.level(g, 1), x.level(g, 2)};
    }

    private void level() {
        edges.terms(2, "LEVEL: the BEST of the SETTINGS of which R is L.");
        // At -1 stems of 15, 17 for 16: 3; SLOPE 30; STAFF 0. At 0 it is 34, at 1 33, too, but there L is more.
        BeamSetter rise = Checks.setter(Scores.RISE);
        edges.dueAll("of RISE", levels(rise, 0), -1, 33, 17);
        for (int l = -60; l <= 60; l++) {
            int ugly = rise.ugliness(0, l, l, 0);
            edges.due("none is less ugly, " + l, 1, ugly == -2 || ugly >= 33 ? 1 : 0);
        }
        edges.dueAll("the BEST is level", levels(Checks.setter(Scores.FLAT), 0), -14, 0, 0);

        edges.promise(31, "LEVEL of a GROUP, what 0 L, 1 UGLINESS, 2 by how much that is more than the BEST one's;");
        edges.dueAll("of FLAT", levels(Checks.setter(Scores.FLAT), 0), -14, 0, 0);
        edges.dueAll("the first NOTE UP", levels(rise, 0), -1, 33, 17);
        edges.dueAll("the first NOTE DOWN", levels(Scores.beam("8 8", "8 -8"), 0), 1, 33, 17);

        edges.promise(31, "NOTHING: none is ALLOWED, no such GROUP, what.");
        edges.dueAll("none at all", levels(Checks.setter(Scores.NEVER), 0), NOTHING, NOTHING, NOTHING);
        BeamSetter steep = Checks.setter(STEEP);
        edges.due("another one is", 1, steep.group(0, 5));
        edges.dueAll("none that is level", levels(steep, 0), NOTHING, NOTHING, NOTHING);
        for (int g : Scores.NO_GROUP) {
            edges.dueAll("level(" + g + ")", levels(rise, g), NOTHING, NOTHING, NOTHING);
        }
        int[] others = {-1, 3, 4, MOST, LEAST};
        for (int what : others) {
            edges.due("level(0, " + what + ")", NOTHING, rise.level(0, what));
        }
        edges.due("without GROUPS", NOTHING, new BeamSetter().level(0, 0));
    }

    private void cut() {
        edges.terms(2, "CUT behind k NOTES: the first k, and the others, as GROUPS of their own (their way of stems, WANT and all "
                + "anew; a single NOTE has UGLINESS 0): UGLINESS of both BEST ones together.");
        // RISE, and FLAT: 16 and 0; KNEED as a whole.
        BeamSetter x = Scores.beam("8 -8", "8 8", "8 0", "8 0");
        edges.due("16 and 0", 16, x.ifCut(0, 2));
        BeamSetter alike = Scores.beam("8 -2", "8 -2", "8 2", "8 2");
        edges.due("UP and DOWN", 0, alike.ifCut(0, 2));
        edges.dueAll("UP, as a whole", Scores.directions(alike), 1, 1, 1, 1);
        edges.due("two single NOTES", 0, Checks.setter(Scores.RISE).ifCut(0, 1));
        edges.due("a single NOTE ahead", Checks.setter("note 8 5;note 8 1;").best(0, 2), Scores.beam("8 12", "8 5", "8 1")
                .ifCut(0, 1));
        edges.due("a single NOTE behind", Checks.setter("note 8 5;note 8 1;").best(0, 2), Scores.beam("8 5", "8 1", "8 12")
                .ifCut(0, 2));

        edges.promise(32, "UGLINESS of a GROUP CUT behind k NOTES; -2: of one of both none is ALLOWED;");
        // KNEE 4: none is ALLOWED of 0 and 4.
        edges.due("ahead", -2, Scores.beamOfKnee(4, "8 0", "8 4", "8 0", "8 0").ifCut(0, 2));
        edges.due("behind", -2, Scores.beamOfKnee(4, "8 0", "8 0", "8 0", "8 4").ifCut(0, 2));
        // 0 and 1 have UGLINESS 1: a stem of 15.
        edges.due("ahead, 1 behind", -2, Scores.beamOfKnee(4, "8 0", "8 4", "8 0", "8 1").ifCut(0, 2));
        edges.due("behind, 1 ahead", -2, Scores.beamOfKnee(4, "8 0", "8 1", "8 0", "8 4").ifCut(0, 2));
        edges.due("1 and 1", 2, Scores.beamOfKnee(4, "8 0", "8 1", "8 0", "8 1").ifCut(0, 2));
        edges.due("1 and 0", 1, Scores.beamOfKnee(4, "8 0", "8 1", "8 0", "8 0").ifCut(0, 2));
        edges.due("neither", -2, Scores.beamOfKnee(4, "8 0", "8 4", "8 0", "8 4").ifCut(0, 2));
        edges.due("both", 0, Scores.beamOfKnee(4, "8 0", "8 0", "8 0", "8 0").ifCut(0, 2));
        edges.due("of the whole none is", 0, Scores.beamOfKnee(4, "8 0", "8 4").ifCut(0, 1));

        edges.promise(32, "NONE: no such GROUP, k not from 1 to one less than it has NOTES.");
        for (int g : Scores.NO_GROUP) {
            edges.due("ifCut(" + g + ", 1)", NONE, x.ifCut(g, 1));
        }
        int[] none = {-1, 0, 4, 5, MOST, LEAST};
        for (int k : none) {
            edges.due("ifCut(0, " + k + ")", NONE, x.ifCut(0, k));
            edges.due("ifCut(0, " + k + "), none is ALLOWED", NONE, Checks.setter(Scores.NEVER).ifCut(0, k));
        }
        edges.due("k 1", 1, x.ifCut(0, 1) >= 0 ? 1 : 0);
        edges.due("k 3", 1, x.ifCut(0, 3) >= 0 ? 1 : 0);
        edges.due("k 2 of two", NONE, Checks.setter(Scores.FLAT).ifCut(0, 2));
        edges.due("without GROUPS", NONE, new BeamSetter().ifCut(0, 1));

        edges.promise(33, "The k by which a GROUP that is CUT has the least UGLINESS, the first of several;");
        edges.due("all alike, each 0", 1, Scores.beam("8 0", "8 0", "8 0", "8 0").cut(0));
        edges.due("UP and DOWN", 2, alike.cut(0));
        edges.due("of two", 1, Checks.setter(Scores.RISE).cut(0));
        edges.due("the last k there is", 3, Scores.beam("8 0", "8 0", "8 0", "8 12").cut(0));
        BeamSetter tied = Scores.beam("8 0", "16 1", "16 2", "16 3", "16 4");
        edges.due("as ugly behind 2 and 4", tied.ifCut(0, 2), tied.ifCut(0, 4));
        edges.due("the first one", 2, tied.cut(0));
        edges.due("some can't be", 1, Scores.beamOfKnee(4, "8 0", "8 4", "8 4").cut(0));

        edges.promise(33, "-2: there is none; NONE: no such GROUP.");
        edges.due("NEVER", -2, Checks.setter(Scores.NEVER).cut(0));
        for (int g : Scores.NO_GROUP) {
            edges.due("cut(" + g + ")", NONE, x.cut(g));
        }
        edges.due("without GROUPS", NONE, new BeamSetter().cut(0));
    }

    // ---- SMOOTH

    private static int[] smootheds(BeamSetter x, int n, int g) {
        return new int[] {x.smoothed(n, g, 0), x.smoothed(n, g, 1), x.smoothed(n, g, 2), x.smoothed(n, g, 3)};
    }

    private void smooth() {
        edges.terms(2, "SMOOTH by n: of each GROUP a SETTING that is ALLOWED, R of each and L of the next GROUP unlike by n at "
                + "most: those of the least UGLINESS together; of several those of which GROUP 0 has the least RANK, of these "
                + "GROUP 1, and so on.");
        // The BEST are -10, -10 of 0 and -3, -3 of 2: unlike by 7.
        BeamSetter x = Checks.setter("note 8 2;note 8 2;note 8 6;note 8 6;");
        edges.dueAll("by 7", smootheds(x, 7, 0), -10, -10, 0, 0);
        edges.dueAll("by 7", smootheds(x, 7, 1), -3, -3, 2, 0);
        edges.due("by 6, not the BEST ones", 1, x.smooth(6, 0) > 2 ? 1 : 0);
        edges.dueAll("by 0", smootheds(x, 0, 0), -10, -10, 0, 0);
        edges.dueAll("by 0, level with it", smootheds(x, 0, 1), -10, -10, 16, x.rank(1, -10, -10));
        // UGLINESS 6: 1, 1 and 9, 9 of RANKS 0 and 2; 3, 3 and 10, 10 of RANKS 3 and 0.
        BeamSetter tied = Checks.setter("note 8 -12;note 8 -12;note 8 -2;note 8 -2;");
        edges.due("as ugly", tied.ugliness(0, 1, 1, 0) + tied.ugliness(1, 9, 9, 0),
                tied.ugliness(0, 3, 3, 0) + tied.ugliness(1, 10, 10, 0));
        edges.dueAll("GROUP 0 of the least RANK", smootheds(tied, 8, 0), 1, 1, 2, 0);
        edges.dueAll("GROUP 1 then", smootheds(tied, 8, 1), 9, 9, 4, 2);
        // By 4 and 2 GROUP 0 can't have its BEST: 5, 5 and 7, 7 are the longest stems that cost no more.
        edges.dueAll("GROUP 0 by 4", smootheds(tied, 4, 0), 5, 5, 10, 4);
        edges.dueAll("GROUP 1 by 4", smootheds(tied, 4, 1), 9, 9, 4, 2);
        edges.dueAll("GROUP 0 by 2", smootheds(tied, 2, 0), 7, 7, 14, 7);
        edges.dueAll("GROUP 1 by 2", smootheds(tied, 2, 1), 9, 9, 4, 2);
        // The same behind a GROUP that goes with both: GROUP 1 has the least RANK of what is left.
        BeamSetter three = Checks.setter("note 8 -12;note 8 -12;note 8 -12;note 8 -12;note 8 -2;note 8 -2;");
        edges.dueAll("GROUP 1 of three", smootheds(three, 8, 1), 1, 1, 2, 0);
        edges.dueAll("GROUP 2 of three", smootheds(three, 8, 2), 9, 9, 4, 2);
        // Turned round, GROUP 0 has it from the one behind.
        BeamSetter turned = Checks.setter("note 8 -2;note 8 -2;note 8 -12;note 8 -12;");
        edges.dueAll("GROUP 0, turned round", smootheds(turned, 8, 0), 10, 10, 0, 0);
        edges.dueAll("GROUP 1, turned round", smootheds(turned, 8, 1), 3, 3, 6, 3);

        edges.promise(34, "SMOOTH by n (0 .. 120), what 0 UGLINESS together (0 without GROUPS), 1 by how much that is more than "
                + "total(0);");
        int[] want = {16, 14, 14, 10, 10, 6, 6, 2, 2};
        for (int n = 0; n < want.length; n++) {
            edges.due("smooth(" + n + ", 0)", want[n], x.smooth(n, 0));
            edges.due("smooth(" + n + ", 1)", want[n] - 2, x.smooth(n, 1));
        }
        edges.due("smooth(120, 0)", 2, x.smooth(120, 0));
        edges.due("smooth(120, 1)", 0, x.smooth(120, 1));
        BeamSetter single = Checks.setter("note 8 2;rest 8;");
        int[] all = {0, 1, 120};
        for (int n : all) {
            edges.due("without GROUPS, smooth(" + n + ", 0)", 0, single.smooth(n, 0));
            edges.due("without GROUPS, smooth(" + n + ", 1)", 0, single.smooth(n, 1));
            edges.due("without ELEMENTS, smooth(" + n + ", 0)", 0, new BeamSetter().smooth(n, 0));
            edges.due("one GROUP alone, smooth(" + n + ", 0)", 16, Checks.setter(Scores.RISE).smooth(n, 0));
        }
        BeamSetter most = Checks.setter("metre 1 4;" + Checks.repeated("note 8 0;", 64));
        edges.due("32 GROUPS", 0, most.smooth(0, 0));
        edges.dueAll("the last of 32", smootheds(most, 0, 31), -14, -14, 0, 0);
        // By KNEE 17 RISE is not KNEED: the BEST one costs what it costs so.
        BeamSetter noKnee = Checks.setter("knee 17;" + Scores.RISE);
        edges.due("by another KNEE, UGLINESS", noKnee.total(0), noKnee.smooth(0, 0));
        edges.due("by another KNEE, not more", 0, noKnee.smooth(0, 1));
        // What lies between GROUPS changes nothing.
        edges.due("a rest between", 16, Checks.setter("note 8 2;note 8 2;rest 4;note 8 6;note 8 6;").smooth(0, 0));

        edges.promise(34, "-2: it can't be;");
        // GROUP 1 is UP at its end from -6: R is 4 at least. GROUP 2 is DOWN from 6: L is -4 at most.
        BeamSetter far = Checks.setter("note 8 -8;note 8 0;note 8 8;note 8 -3;note 8 3;note 8 3;");
        edges.due("smooth(7, 0)", -2, far.smooth(7, 0));
        edges.due("smooth(7, 1)", -2, far.smooth(7, 1));
        edges.due("smooth(8, 0)", 82, far.smooth(8, 0));
        edges.due("smooth(8, 1)", 25, far.smooth(8, 1));
        BeamSetter never = Checks.setter(Scores.NEVER + "rest 4;rest 4;" + Scores.FLAT);
        edges.due("none is ALLOWED of the first", -2, never.smooth(120, 0));
        edges.due("none is ALLOWED of the last", -2, Checks.setter("knee 4;" + Scores.FLAT + "note 8 0;note 8 4;").smooth(120, 0));
        edges.due("none is ALLOWED of the last", -2, Checks.setter("knee 4;" + Scores.FLAT + "note 8 0;note 8 4;").smooth(120, 1));

        edges.promise(34, "NONE: no such n, what.");
        int[] none = {-1, 121, MOST, LEAST};
        int[] others = {-1, 2, 3, MOST, LEAST};
        for (int n : none) {
            edges.due("smooth(" + n + ", 0)", NONE, x.smooth(n, 0));
            edges.due("smooth(" + n + ", 0) without GROUPS", NONE, single.smooth(n, 0));
            edges.due("smooth(" + n + ", 0) that can't be", NONE, never.smooth(n, 0));
        }
        for (int what : others) {
            edges.due("smooth(0, " + what + ")", NONE, x.smooth(0, what));
            edges.due("smooth(0, " + what + ") that can't be", NONE, never.smooth(0, what));
        }

        edges.promise(35, "Of a GROUP, SMOOTH by n, what 0 L, 1 R, 2 UGLINESS, 3 RANK;");
        edges.dueAll("by 5", smootheds(x, 5, 1), -5, -5, 6, 2);
        edges.dueAll("by 120", smootheds(x, 120, 1), -3, -3, 2, 0);
        edges.dueAll("sloping", smootheds(Checks.setter(Scores.RISE), 0, 0), -4, 0, 16, 0);
        edges.dueAll("the only one", smootheds(Checks.setter(STEEP), 0, 0), 10, 2, 139, 0);
        for (int n = 8; n <= 14; n++) {
            edges.due("together by " + n, far.smooth(n, 0), far.smoothed(n, 0, 2) + far.smoothed(n, 1, 2)
                    + far.smoothed(n, 2, 2));
            for (int g = 0; g < 3; g++) {
                int[] own = smootheds(far, n, g);
                edges.due("RANK by " + n + " of " + g, far.rank(g, own[0], own[1]), own[3]);
                edges.due("UGLINESS by " + n + " of " + g, far.ugliness(g, own[0], own[1], 0), own[2]);
                edges.due("step by " + n + " to " + g, 1,
                        g == 0 || Math.abs(far.smoothed(n, g - 1, 1) - own[0]) <= n ? 1 : 0);
            }
        }

        edges.promise(35, "NOTHING: it can't be, no such n, GROUP, what.");
        edges.dueAll("it can't be", smootheds(far, 7, 0), NOTHING, NOTHING, NOTHING, NOTHING);
        edges.dueAll("none is ALLOWED of another", smootheds(never, 120, 1), NOTHING, NOTHING, NOTHING, NOTHING);
        for (int n : none) {
            edges.due("smoothed(" + n + ", 0, 0)", NOTHING, x.smoothed(n, 0, 0));
            edges.due("smoothed(" + n + ", 0, 0) of one", NOTHING, Checks.setter(Scores.RISE).smoothed(n, 0, 0));
        }
        int[] groups = {-1, 2, 32, MOST, LEAST};
        for (int g : groups) {
            edges.due("smoothed(0, " + g + ", 0)", NOTHING, x.smoothed(0, g, 0));
        }
        int[] whats = {-1, 4, 5, MOST, LEAST};
        for (int what : whats) {
            edges.due("smoothed(0, 0, " + what + ")", NOTHING, x.smoothed(0, 0, what));
        }
        edges.due("without GROUPS", NOTHING, single.smoothed(0, 0, 0));
    }

    private void extreme() {
        edges.promise(37, "The NOTE (its ELEMENT) of a GROUP with the shortest stem by the BEST SETTING (what 0), the longest "
                + "(1), the first of several;");
        // 12 and 16 of RISE; 14 and 14 of FLAT; 12, 46 by 3, 56 by 3, 16.
        BeamSetter rise = Checks.setter(Scores.RISE);
        edges.dueAll("of RISE", new int[] {rise.extreme(0, 0), rise.extreme(0, 1)}, 0, 1);
        BeamSetter flat = Checks.setter("rest 4;" + Scores.FLAT);
        edges.dueAll("as long", new int[] {flat.extreme(0, 0), flat.extreme(0, 1)}, 1, 1);
        BeamSetter x = Checks.setter("rest 4;note 16 4;note 16 5;note 16 6;note 16 -12;");
        edges.dueAll("between", new int[] {x.extreme(0, 0), x.extreme(0, 1)}, 1, 3);
        // The BEST is -4, -7: 12, 131 by 11, 15.
        BeamSetter near = Checks.setter("knee 4;wide 8 7;wide 16 4;" + Scores.underOne("8 -8", "16 3", "8 -11"));
        edges.dueAll("stem(1)", new int[] {near.stem(1, 0), near.stem(1, 1)}, 131, 11);
        edges.due("shorter by 1 of 11", 1, near.extreme(0, 0));
        // 476, 532, 533, 442 by 34.
        BeamSetter long34 = Scores.beamOfKnee(10, "8 -11", "32 5", "32 -10", "32 5");
        edges.dueAll("stems", new int[] {long34.stem(1, 0) * 34 / long34.stem(1, 1), long34.stem(2, 0) * 34 / long34.stem(2, 1)},
                532, 533);
        edges.due("longer by 1 of 34", 2, long34.extreme(0, 1));
        // The BEST is -14, -14: 16, 14, 14, 16.
        BeamSetter pairs = Scores.beam("8 1", "8 0", "8 0", "8 1");
        edges.dueAll("two and two as long", new int[] {pairs.extreme(0, 0), pairs.extreme(0, 1)}, 1, 0);
        BeamSetter others = Scores.beam("8 -1", "8 0", "8 0", "8 -1");
        edges.dueAll("two and two as long, UP", new int[] {others.extreme(0, 0), others.extreme(0, 1)}, 1, 0);

        edges.promise(37, "-2: none is ALLOWED;");
        BeamSetter never = Checks.setter(Scores.NEVER);
        edges.due("the shortest", -2, never.extreme(0, 0));
        edges.due("the longest", -2, never.extreme(0, 1));

        edges.promise(37, "NONE: no such GROUP, what.");
        for (int g : Scores.NO_GROUP) {
            edges.due("extreme(" + g + ", 0)", NONE, x.extreme(g, 0));
        }
        int[] none = {-1, 2, 3, MOST, LEAST};
        for (int what : none) {
            edges.due("extreme(0, " + what + ")", NONE, x.extreme(0, what));
            edges.due("extreme(0, " + what + "), none is ALLOWED", NONE, never.extreme(0, what));
        }
        edges.due("without GROUPS", NONE, new BeamSetter().extreme(0, 0));
    }

    void check() {
        ifPut();
        wish();
        ifShifted();
        shift();
        mirrored();
        ifKnee();
        ifParts();
        alone();
        single();
        stretches();
        level();
        cut();
        smooth();
        extreme();
    }
}
