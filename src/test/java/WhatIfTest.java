/** Promises 21 to 37: what would be, STRETCHES, LEVEL, CUT, SMOOTH, SINGLE notes, the extreme ones. */
public final class WhatIfTest {
    private static final Checks CHECKS = new Checks();
    private static final int NONE = BeamSetter.NONE;
    private static final int NOTHING = BeamSetter.NOTHING;
    private static final String MIXED = "note 8 5;note 8 -6;note 8 -2; note 8 1;"
            + " note 16 4; note 16 5; note 16 6; note 16 -12;";
    private static final String NEVER = "knee 4;metre 4 2;note 8 -6; note 8 -2; note 8 2; note 8 6;";
    private static final String THREE = "note 8 -8;note 8 0;note 8 8;note 8 -3;note 8 3; note 8 3;note 4 9;";
    private static final String MANY = "split 4;note 16 0;note 16 1;note 8 2;note 16 3;note 32 1;note 32 2;"
            + "note 16 -1;note 8 0;";
    private static final String SINGLES = "note 4 9;note 4 -9;note 16 5;rest 16;note 32 -12;rest 32;rest 16;note 8 7;";

    /** Nothing that is asked may change what is asked later. */
    private static String stateOf(BeamSetter x) {
        StringBuilder text = new StringBuilder();
        for (int i = 0; i < x.count(1); i++) {
            text.append(x.position(i)).append(' ').append(x.direction(i)).append(' ');
        }
        for (int what = 0; what < 15; what++) {
            text.append(x.count(what)).append(' ');
        }
        for (int what = 0; what < 4; what++) {
            text.append(x.total(what)).append(' ');
        }
        return text.append(x.fault(0)).append(x.fault(1)).toString();
    }

    private static void unchanged(String what, BeamSetter x, String before) {
        CHECKS.due(what + " changes nothing", 1, stateOf(x).equals(before) ? 1 : 0);
    }

    private static int[] ifPuts(BeamSetter x, int i, int position) {
        int[] all = new int[6];
        for (int what = 0; what < 6; what++) {
            all[what] = x.ifPut(i, position, what);
        }
        return all;
    }

    private static int[] bests(BeamSetter x, int g) {
        int[] all = new int[6];
        for (int what = 0; what < 6; what++) {
            all[what] = x.best(g, what);
        }
        return all;
    }

    /** Promise 21. */
    private static void ifPut() {
        BeamSetter x = Checks.setter("note 8 0;note 8 0;note 4 1;rest 4;note 8 3;");
        x.put(2, 5);
        String before = stateOf(x);
        CHECKS.dueAll("as it is", ifPuts(x, 0, 0), -14, -14, 0, 0, 0, 0);
        CHECKS.dueAll("ifPut(0, 2)", ifPuts(x, 0, 2), -12, -14, 2, 2, 0, 0);
        CHECKS.dueAll("a knee", ifPuts(Checks.setter("note 8 0;note 8 8;"), 0, -8), -4, 0, 16, 8, 6, 2);
        CHECKS.due("no such ELEMENT", NOTHING, x.ifPut(5, 0, 0));
        CHECKS.due("no such ELEMENT", NOTHING, x.ifPut(-1, 0, 0));
        CHECKS.due("of no GROUP", NOTHING, x.ifPut(2, 0, 0));
        CHECKS.due("a rest", NOTHING, x.ifPut(3, 0, 0));
        CHECKS.due("of no GROUP", NOTHING, x.ifPut(4, 0, 0));
        CHECKS.due("no such POSITION", NOTHING, x.ifPut(0, 13, 0));
        CHECKS.due("no such POSITION", NOTHING, x.ifPut(0, -13, 0));
        CHECKS.due("no such what", NOTHING, x.ifPut(0, 0, 6));
        CHECKS.due("no such what", NOTHING, x.ifPut(0, 0, -1));
        CHECKS.due("none would be ALLOWED", NOTHING, Checks.setter(NEVER).ifPut(0, -7, 2));
        unchanged("ifPut", x, before);
        x.put(0, 2);
        CHECKS.dueAll("when it is PUT", bests(x, 0), -12, -14, 2, 2, 0, 0);
    }

    /** Promise 22. */
    private static void wish() {
        BeamSetter x = Checks.setter("note 8 2;note 8 -1;note 8 12;note 8 12;note 8 0;rest 8;note 4 0;");
        String before = stateOf(x);
        CHECKS.due("wish(0)", -1, x.wish(0));
        CHECKS.due("wish(1)", 2, x.wish(1));
        CHECKS.due("its own", 12, x.wish(2));
        BeamSetter tied = Checks.setter("metre 2 2;split 2;note 8 6;note 32 4;");
        CHECKS.due("2 and 6 are as near and as ugly", tied.ifPut(1, 2, 2), tied.ifPut(1, 6, 2));
        CHECKS.due("the lower one", 2, tied.wish(1));
        CHECKS.due("of no GROUP", NOTHING, x.wish(4));
        CHECKS.due("a rest", NOTHING, x.wish(5));
        CHECKS.due("kind 4", NOTHING, x.wish(6));
        CHECKS.due("no such ELEMENT", NOTHING, x.wish(7));
        CHECKS.due("no such ELEMENT", NOTHING, x.wish(-1));
        unchanged("wish", x, before);
        BeamSetter y = Checks.setter(NEVER);
        CHECKS.due("farthest", -12, y.wish(0));
        CHECKS.due("farthest", 12, y.wish(3));
        CHECKS.due("by none one is ALLOWED", NOTHING, Checks.setter("knee 24;split 4;note 8 12;note 8 0;"
                + "note 8 -12;note 8 0;").wish(3));
        // Every answer is at most as ugly as any other POSITION, and the nearest of those as ugly.
        for (int i = 0; i < 8; i++) {
            nearestIsWished(Checks.setter(MANY), i);
        }
    }

    private static void nearestIsWished(BeamSetter x, int i) {
        int found = NOTHING;
        for (int p = 12; p >= -12; p--) {
            int ugly = x.ifPut(i, p, 2);
            int least = found == NOTHING ? Integer.MAX_VALUE : x.ifPut(i, found, 2);
            boolean near = found != NOTHING && Math.abs(p - x.position(i)) <= Math.abs(found - x.position(i));
            if (ugly != NOTHING && (ugly < least || ugly == least && near)) {
                found = p;
            }
        }
        CHECKS.due("wish(" + i + ")", found, x.wish(i));
    }

    private static int[] ifShifteds(BeamSetter x, int t) {
        return new int[] {x.ifShifted(t, 0), x.ifShifted(t, 1), x.ifShifted(t, 2), x.ifShifted(t, 3)};
    }

    /** Promises 23, 24. */
    private static void shifting() {
        BeamSetter x = Checks.setter(THREE);
        String before = stateOf(x);
        CHECKS.dueAll("as it is", ifShifteds(x, 0), 57, 0, 1, 1);
        CHECKS.dueAll("2 lower", ifShifteds(x, -2), 47, 0, 1, 1);
        CHECKS.dueAll("4 lower", ifShifteds(x, -4), 50, 0, 1, 1);
        CHECKS.due("3 higher", 63, x.ifShifted(3, 0));
        CHECKS.dueAll("a note would be too high", ifShifteds(x, 4), NONE, NONE, NONE, NONE);
        CHECKS.dueAll("a note would be too low", ifShifteds(x, -5), NONE, NONE, NONE, NONE);
        CHECKS.due("no such t", NONE, x.ifShifted(13, 0));
        CHECKS.due("no such t", NONE, x.ifShifted(-13, 0));
        CHECKS.due("no such t", NONE, x.ifShifted(Integer.MAX_VALUE, 0));
        CHECKS.due("no such what", NONE, x.ifShifted(0, 4));
        CHECKS.due("no such what", NONE, x.ifShifted(0, -1));
        CHECKS.due("shift", -2, x.shift());
        unchanged("shift", x, before);
        CHECKS.dueAll("no notes, rests alone", ifShifteds(Checks.setter("rest 8;"), 12), 0, 0, -2, 0);
        CHECKS.dueAll("none would be ALLOWED", ifShifteds(Checks.setter(NEVER), 6), 0, 1, -2, 1);
        CHECKS.due("no GROUPS", NOTHING, Checks.setter(SINGLES).shift());
        CHECKS.due("no GROUPS", NOTHING, new BeamSetter().shift());
        CHECKS.due("shift", -10, Checks.setter("note 8 12;note 8 12;note 4 0;").shift());
        CHECKS.due("shift", 5, Checks.setter("metre 3 8;note 8 0;note 16 1;note 16 2;note 16 3;note 16 4;").shift());
        CHECKS.due("none ALLOWED: nearest to 0", 0, Checks.setter(NEVER).shift());
        CHECKS.due("4 lower", -4, Checks.setter("note 8 2;note 8 2;note 8 6;note 8 6;").shift());
        CHECKS.due("as good and as near: the lower one", -5, Checks.setter("note 8 3;note 8 -3;").shift());
        // Two NOTES alike at -2 .. 2 have UGLINESS 0, others more.
        BeamSetter y = Checks.setter("note 8 9;note 8 9;");
        CHECKS.due("shift", -7, y.shift());
        y.put(0, -12);
        y.put(1, -12);
        CHECKS.due("of notes that are PUT", 10, y.shift());
        BeamSetter z = Checks.setter(NEVER + "rest 4;rest 4;rest 4;rest 4;rest 4;rest 4;note 8 4;note 8 4;");
        CHECKS.due("one aside by each", -2, z.shift());
        // UP, the 3 BEAMS of the highest NOTE leave no SETTING; DOWN, by 1 higher, there are some.
        BeamSetter w = Checks.setter("knee 24;metre 1 2;note 8 -8;note 32 8;note 8 -8;");
        CHECKS.dueAll("aside", ifShifteds(w, 0), 0, 1, -2, 0);
        CHECKS.due("not aside", 0, w.ifShifted(1, 1));
        CHECKS.due("fewer aside goes ahead of less UGLINESS", 0, w.ifShifted(w.shift(), 1));
    }

    /** Promise 25. */
    private static void mirrored() {
        CHECKS.due("all at 0", 0, Checks.setter("note 8 0;note 8 0;").mirrored(0));
        BeamSetter x = Checks.setter(MIXED);
        String before = stateOf(x);
        CHECKS.due("KNEED", 1, x.mirrored(0));
        CHECKS.due("not KNEED", 1, x.mirrored(1));
        CHECKS.due("no such GROUP", NONE, x.mirrored(3));
        CHECKS.due("no such GROUP", NONE, x.mirrored(-1));
        CHECKS.due("none ALLOWED", -2, Checks.setter(NEVER).mirrored(0));
        unchanged("mirrored", x, before);
        // Two gaps of 10, the lower one is that of the knee, turned or not. The beam is at -10 at most at both
        // ends, at -9 at least between them, where a NOTE of 2 BEAMS is; at -10 where it has 1.
        BeamSetter y = Checks.setter("metre 1 2;note 8 0;note 16 -10;note 8 10;note 8 0;");
        CHECKS.due("none is ALLOWED", 0, y.group(0, 5));
        CHECKS.due("none is ALLOWED", -2, y.mirrored(0));
        BeamSetter z = Checks.setter("metre 1 2;note 8 0;note 16 10;note 8 -10;note 8 0;");
        CHECKS.due("one is ALLOWED", 1, z.group(0, 5));
        CHECKS.due("none would be", -2, z.mirrored(0));
        CHECKS.due("another knee", 0, Checks.setter("metre 1 2;note 16 0;note 16 10;note 16 -10;note 16 10;").mirrored(0));
    }

    /** Promises 26, 27. */
    private static void ifKneeAndParts() {
        BeamSetter x = Checks.setter("note 8 -8;note 8 8;note 8 0;note 8 4;");
        String before = stateOf(x);
        CHECKS.due("ifKnee(16, 3)", 1, x.ifKnee(16, 3));
        CHECKS.due("ifKnee(17, 3)", 0, x.ifKnee(17, 3));
        CHECKS.due("ifKnee(4, 3)", 2, x.ifKnee(4, 3));
        CHECKS.due("ifKnee(5, 3)", 1, x.ifKnee(5, 3));
        CHECKS.due("ifKnee(24, 3)", 0, x.ifKnee(24, 3));
        CHECKS.due("ifKnee(9, 0)", x.total(0), x.ifKnee(9, 0));
        CHECKS.due("ifKnee(9, 2)", x.total(2), x.ifKnee(9, 2));
        CHECKS.due("ifKnee(24, 1)", 0, x.ifKnee(24, 1));
        CHECKS.due("without GROUPS", -2, new BeamSetter().ifKnee(9, 2));
        CHECKS.due("no such n", NONE, x.ifKnee(3, 0));
        CHECKS.due("no such n", NONE, x.ifKnee(25, 0));
        CHECKS.due("no such what", NONE, x.ifKnee(9, 4));
        CHECKS.due("no such what", NONE, x.ifKnee(9, -1));
        unchanged("ifKnee", x, before);
        BeamSetter y = Checks.setter("metre 6 8;split 1 2 3;" + Checks.repeated("note 8 1;", 11));
        CHECKS.due("GROUPS", 4, y.count(3));
        // Eleven NOTES in MEASURES of six: of 1: none; of 2: 2 2 2, 2 2 1; of 3: 3 3, 3 2; of 4: 4 2, 4 1; of 5: 5 1, 5.
        int[] want = {0, 5, 4, 3, 2, 2, 2, 2, 2, 2, 2, 2};
        for (int n = 1; n <= 12; n++) {
            CHECKS.due("ifParts(" + n + ")", want[n - 1], y.ifParts(n));
        }
        CHECKS.due("no such n", NONE, y.ifParts(0));
        CHECKS.due("no such n", NONE, y.ifParts(13));
        CHECKS.due("no such n", NONE, y.ifParts(Integer.MIN_VALUE));
        CHECKS.due("GROUPS as ever", 4, y.count(3));
        CHECKS.due("no ELEMENTS", 0, new BeamSetter().ifParts(1));
    }

    /** Promises 28, 36. */
    private static void alone() {
        BeamSetter x = Checks.setter(SINGLES);
        CHECKS.due("alone(0)", 3, x.alone(0));
        CHECKS.due("alone(1)", 2, x.alone(1));
        CHECKS.due("the first ELEMENT", 0, Checks.setter("note 8 1;rest 8;note 16 1;").alone(1));
        CHECKS.due("none", -2, Checks.setter(THREE).alone(1));
        CHECKS.due("none", 0, Checks.setter(THREE).alone(0));
        CHECKS.due("no such what", NONE, x.alone(2));
        CHECKS.due("no such what", NONE, x.alone(-1));
        single(x, 0, -1, 18, 0);
        single(x, 1, 1, 18, 0);
        single(x, 2, -1, 15, -5);
        single(x, 4, 1, 24, 0);
        single(x, 7, -1, 14, 0);
        single(x, 3, NOTHING, NOTHING, NOTHING);
        single(x, 8, NOTHING, NOTHING, NOTHING);
        single(x, -1, NOTHING, NOTHING, NOTHING);
        single(Checks.setter("note 32 8;note 4 0;"), 0, -1, 17, -1);
        single(Checks.setter("note 4 0;"), 0, -1, 14, -14);
        single(Checks.setter("note 4 -1;"), 0, 1, 14, 12);
        single(Checks.setter("note 8 0;note 8 0;"), 0, NOTHING, NOTHING, NOTHING);
        CHECKS.due("no such what", NOTHING, x.single(0, 3));
        CHECKS.due("no such what", NOTHING, x.single(0, -1));
        x.put(0, -2);
        single(x, 0, 1, 14, 10);
    }

    private static void single(BeamSetter x, int i, int... want) {
        CHECKS.dueAll("single(" + i + ")", new int[] {x.single(i, 0), x.single(i, 1), x.single(i, 2)}, want);
    }

    /** Promises 29, 30. */
    private static void stretches() {
        BeamSetter x = Checks.setter(MANY);
        CHECKS.due("BEAM 1", 1, x.stretches(0, 1));
        CHECKS.due("BEAM 2", 2, x.stretches(0, 2));
        CHECKS.due("BEAM 3", 1, x.stretches(0, 3));
        CHECKS.due("no such BEAM", NONE, x.stretches(0, 0));
        CHECKS.due("no such BEAM", NONE, x.stretches(0, 4));
        CHECKS.due("no such GROUP", NONE, x.stretches(1, 1));
        CHECKS.due("no such GROUP", NONE, x.stretches(-1, 1));
        stretch(x, 1, 0, 0, 7, 82);
        stretch(x, 2, 0, 0, 1, 12);
        stretch(x, 2, 1, 3, 6, 30);
        stretch(x, 3, 0, 4, 5, 9);
        stretch(x, 2, 2, -2, -2, -2);
        stretch(x, 3, 1, -2, -2, -2);
        stretch(x, 1, Integer.MAX_VALUE, -2, -2, -2);
        stretch(x, 0, 0, NONE, NONE, NONE);
        stretch(x, 4, 0, NONE, NONE, NONE);
        stretch(x, 1, -1, NONE, NONE, NONE);
        CHECKS.due("no such what", NONE, x.stretch(0, 1, 0, 3));
        CHECKS.due("no such what", NONE, x.stretch(0, 1, 0, -1));
        CHECKS.due("no such what goes first", NONE, x.stretch(0, 1, 9, 3));
        CHECKS.due("no such GROUP", NONE, x.stretch(1, 1, 0, 0));
        CHECKS.due("no such GROUP", NONE, x.stretch(-1, 1, 0, 0));
        BeamSetter y = Checks.setter("note 16 0;note 16 0;note 16 0;note 16 0;note 16 0;note 16 0;note 8 1;");
        CHECKS.due("up to the GROUP's end", 1, y.stretches(0, 2));
        CHECKS.due("its last ELEMENT", 3, y.stretch(0, 2, 0, 1));
        CHECKS.due("the next GROUP", 4, y.stretch(1, 2, 0, 0));
        CHECKS.due("its last ELEMENT", 5, y.stretch(1, 2, 0, 1));
    }

    private static void stretch(BeamSetter x, int k, int i, int... want) {
        int[] got = {x.stretch(0, k, i, 0), x.stretch(0, k, i, 1), x.stretch(0, k, i, 2)};
        CHECKS.dueAll("stretch " + i + " of BEAM " + k, got, want);
    }

    private static int[] levels(BeamSetter x, int g) {
        return new int[] {x.level(g, 0), x.level(g, 1), x.level(g, 2)};
    }

    /** Promise 31. */
    private static void level() {
        BeamSetter x = Checks.setter(THREE);
        CHECKS.dueAll("level(0)", levels(x, 0), 14, 44, 35);
        CHECKS.dueAll("the BEST is level", levels(x, 1), 5, 46, 0);
        CHECKS.dueAll("no such GROUP", levels(x, 3), NOTHING, NOTHING, NOTHING);
        CHECKS.dueAll("no such GROUP", levels(x, -1), NOTHING, NOTHING, NOTHING);
        CHECKS.due("no such what", NOTHING, x.level(0, 3));
        CHECKS.due("no such what", NOTHING, x.level(0, -1));
        CHECKS.dueAll("none ALLOWED", levels(Checks.setter(NEVER), 0), NOTHING, NOTHING, NOTHING);
        // Between -4 and 4, both stems 10 long: level doesn't go, steep does.
        BeamSetter y = Checks.setter("knee 8;note 8 4;note 8 -4;");
        CHECKS.due("steep alone", 1, y.group(0, 5) > 0 ? 1 : 0);
        CHECKS.dueAll("none level", levels(y, 0), NOTHING, NOTHING, NOTHING);
    }

    /** Promises 32, 33. */
    private static void cut() {
        BeamSetter x = Checks.setter(MANY);
        int[] want = {19, 19, 17, 14, 21, 17, 19};
        for (int k = 1; k <= 7; k++) {
            CHECKS.due("ifCut(0, " + k + ")", want[k - 1], x.ifCut(0, k));
        }
        CHECKS.due("cut(0)", 4, x.cut(0));
        CHECKS.due("no such k", NONE, x.ifCut(0, 0));
        CHECKS.due("no such k", NONE, x.ifCut(0, 8));
        CHECKS.due("no such k", NONE, x.ifCut(0, -1));
        CHECKS.due("no such GROUP", NONE, x.ifCut(1, 1));
        CHECKS.due("no such GROUP", NONE, x.ifCut(-1, 1));
        CHECKS.due("no such GROUP", NONE, x.cut(1));
        CHECKS.due("no such GROUP", NONE, x.cut(-1));
        BeamSetter y = Checks.setter("metre 3 8;note 8 0;note 16 1;note 16 2;note 16 3;note 16 4;");
        CHECKS.due("as ugly", y.ifCut(0, 2), y.ifCut(0, 4));
        CHECKS.due("the first of several", 2, y.cut(0));
        CHECKS.due("two single NOTES", 0, Checks.setter("note 8 -12;note 8 12;").ifCut(0, 1));
        CHECKS.due("two single NOTES", 1, Checks.setter("note 8 -12;note 8 12;").cut(0));
        CHECKS.due("none ALLOWED behind", -2, Checks.setter(NEVER).ifCut(0, 1));
        CHECKS.due("none ALLOWED", -2, Checks.setter(NEVER).ifCut(0, 2));
        CHECKS.due("none ALLOWED ahead", -2, Checks.setter(NEVER).ifCut(0, 3));
        CHECKS.due("no k", -2, Checks.setter(NEVER).cut(0));
        unchanged("cut", x, stateOf(Checks.setter(MANY)));
    }

    /** Promises 34, 35. */
    private static void smooth() {
        BeamSetter x = Checks.setter("note 8 2;note 8 2;note 8 6;note 8 6;");
        int[] want = {16, 14, 14, 10, 10, 6, 6, 2, 2};
        for (int n = 0; n < want.length; n++) {
            CHECKS.due("smooth(" + n + ", 0)", want[n], x.smooth(n, 0));
            CHECKS.due("smooth(" + n + ", 1)", want[n] - 2, x.smooth(n, 1));
        }
        CHECKS.due("smooth(120, 0)", 2, x.smooth(120, 0));
        CHECKS.due("no such n", NONE, x.smooth(121, 0));
        CHECKS.due("no such n", NONE, x.smooth(-1, 0));
        CHECKS.due("no such what", NONE, x.smooth(0, 2));
        CHECKS.due("no such what", NONE, x.smooth(0, -1));
        CHECKS.due("no GROUPS", 0, new BeamSetter().smooth(0, 0));
        CHECKS.due("no GROUPS", 0, new BeamSetter().smooth(0, 1));
        CHECKS.due("no GROUPS", NOTHING, new BeamSetter().smoothed(0, 0, 0));
        smoothed(x, 0, 0, -10, -10, 0, 0);
        smoothed(x, 0, 1, -10, -10, 16, x.rank(1, -10, -10));
        smoothed(x, 5, 0, -10, -10, 0, 0);
        smoothed(x, 5, 1, -5, -5, 6, 2);
        smoothed(x, 7, 1, -3, -3, 2, 0);
        smoothed(x, 120, 1, -3, -3, 2, 0);
        smoothed(x, 121, 0, NOTHING, NOTHING, NOTHING, NOTHING);
        smoothed(x, -1, 0, NOTHING, NOTHING, NOTHING, NOTHING);
        smoothed(x, 0, 2, NOTHING, NOTHING, NOTHING, NOTHING);
        smoothed(x, 0, -1, NOTHING, NOTHING, NOTHING, NOTHING);
        CHECKS.due("no such what", NOTHING, x.smoothed(0, 0, 4));
        CHECKS.due("no such what", NOTHING, x.smoothed(0, 0, -1));
        BeamSetter y = Checks.setter(THREE);
        CHECKS.due("it can't be", -2, y.smooth(7, 0));
        CHECKS.due("it can't be", -2, y.smooth(7, 1));
        smoothed(y, 7, 0, NOTHING, NOTHING, NOTHING, NOTHING);
        CHECKS.due("it can", 82, y.smooth(8, 0));
        CHECKS.due("it can", 25, y.smooth(8, 1));
        CHECKS.due("none ALLOWED", -2, Checks.setter(NEVER).smooth(120, 0));
        CHECKS.due("one GROUP alone", 20, Checks.setter(MANY).smooth(0, 0));
        smoothedTogether(y, 9, 72);
        smoothedTogether(y, 11, 63);
        unchanged("smooth", y, stateOf(Checks.setter(THREE)));
    }

    private static void smoothed(BeamSetter x, int n, int g, int... want) {
        int[] got = {x.smoothed(n, g, 0), x.smoothed(n, g, 1), x.smoothed(n, g, 2), x.smoothed(n, g, 3)};
        CHECKS.dueAll("smoothed(" + n + ", " + g + ")", got, want);
    }

    private static void smoothedTogether(BeamSetter x, int n, int want) {
        int sum = 0;
        for (int g = 0; g < x.count(3); g++) {
            sum += x.smoothed(n, g, 2);
            CHECKS.due("rank", x.smoothed(n, g, 3), x.rank(g, x.smoothed(n, g, 0), x.smoothed(n, g, 1)));
            if (g > 0) {
                int step = Math.abs(x.smoothed(n, g - 1, 1) - x.smoothed(n, g, 0));
                CHECKS.due("step " + step + " by " + n, 1, step <= n ? 1 : 0);
            }
        }
        CHECKS.due("together by " + n, want, sum);
    }

    /** Promise 37. */
    private static void extreme() {
        BeamSetter x = Checks.setter(MIXED);
        CHECKS.due("as long: the first", 0, x.extreme(0, 0));
        CHECKS.due("as long: the first", 0, x.extreme(0, 1));
        CHECKS.due("shortest", 3, x.extreme(1, 0));
        CHECKS.due("longest", 2, x.extreme(1, 1));
        CHECKS.due("shortest", 4, x.extreme(2, 0));
        CHECKS.due("longest", 6, x.extreme(2, 1));
        CHECKS.due("no such GROUP", NONE, x.extreme(3, 0));
        CHECKS.due("no such GROUP", NONE, x.extreme(-1, 0));
        CHECKS.due("no such what", NONE, x.extreme(0, 2));
        CHECKS.due("no such what", NONE, x.extreme(0, -1));
        CHECKS.due("none ALLOWED", -2, Checks.setter(NEVER).extreme(0, 0));
        CHECKS.due("none ALLOWED, no such what", NONE, Checks.setter(NEVER).extreme(0, 2));
    }

    public static void main(String[] args) {
        ifPut();
        wish();
        shifting();
        mirrored();
        ifKneeAndParts();
        alone();
        stretches();
        level();
        cut();
        smooth();
        extreme();
        CHECKS.end();
    }
}
