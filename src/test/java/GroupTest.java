/** Promises 6 to 20: POSITIONS and what is PUT, GROUPS, SETTINGS, BEST ones, stems, BEAMS, totals. */
public final class GroupTest {
    private static final Checks CHECKS = new Checks();
    private static final int NONE = BeamSetter.NONE;
    private static final int NOTHING = BeamSetter.NOTHING;

    /** Three GROUPS: one KNEED, one with a knee of two gaps less than KNEE, one of four with a deep last NOTE. */
    private static final String MIXED = "note 8 5;note 8 -6;note 8 -2; note 8 1;"
            + " note 16 4; note 16 5; note 16 6; note 16 -12;";
    private static final String STUBS = "metre 2 4;split 2;note 16 4;note 8 1;note 16 -3;note 32 0;note 32 2;"
            + "note 16 1;note 8 0;";
    private static final String NEVER = "knee 4;metre 4 2;note 8 -6; note 8 -2; note 8 2; note 8 6;";

    private static int[] bests(BeamSetter x, int g) {
        int[] all = new int[6];
        for (int what = 0; what < 6; what++) {
            all[what] = x.best(g, what);
        }
        return all;
    }

    private static int[] rankeds(BeamSetter x, int g, int k) {
        int[] all = new int[6];
        for (int what = 0; what < 6; what++) {
            all[what] = x.ranked(g, k, what);
        }
        return all;
    }

    private static int[] groups(BeamSetter x, int g) {
        int[] all = new int[7];
        for (int what = 0; what < 7; what++) {
            all[what] = x.group(g, what);
        }
        return all;
    }

    private static int[] stems(BeamSetter x, int i) {
        return new int[] {x.stem(i, 0), x.stem(i, 1), x.stem(i, 2), x.stem(i, 3)};
    }

    private static int[] beams(BeamSetter x, int i) {
        return new int[] {x.beams(i, 0), x.beams(i, 1), x.beams(i, 2), x.beams(i, 3)};
    }

    private static int[] directions(BeamSetter x) {
        int[] all = new int[x.count(1)];
        for (int i = 0; i < all.length; i++) {
            all[i] = x.direction(i);
        }
        return all;
    }

    /** Promises 6, 8, 9. */
    private static void putting() {
        BeamSetter x = Checks.setter("note 8 3;note 8 -12;rest 8;note 4 12;");
        CHECKS.due("position(0)", 3, x.position(0));
        CHECKS.due("position(1)", -12, x.position(1));
        CHECKS.due("position of a rest", NOTHING, x.position(2));
        CHECKS.due("position(3)", 12, x.position(3));
        CHECKS.due("position(4)", NOTHING, x.position(4));
        CHECKS.due("position(-1)", NOTHING, x.position(-1));
        CHECKS.due("undo without any", NONE, x.undo());
        CHECKS.due("put(0, 13)", NOTHING, x.put(0, 13));
        CHECKS.due("put(0, -13)", NOTHING, x.put(0, -13));
        CHECKS.due("put(0, least)", NOTHING, x.put(0, Integer.MIN_VALUE));
        CHECKS.due("put of a rest", NOTHING, x.put(2, 0));
        CHECKS.due("put(4, 0)", NOTHING, x.put(4, 0));
        CHECKS.due("put(-1, 0)", NOTHING, x.put(-1, 0));
        CHECKS.due("nothing was PUT", 0, x.count(9));
        CHECKS.due("put(0, 12)", 3, x.put(0, 12));
        CHECKS.due("put(0, -12)", 12, x.put(0, -12));
        CHECKS.due("put where it is", 12, x.put(3, 12));
        CHECKS.due("what can be undone", 3, x.count(9));
        CHECKS.due("undo", 2, x.undo());
        CHECKS.due("undo", 1, x.undo());
        CHECKS.due("position(0)", 12, x.position(0));
        CHECKS.due("undo", 0, x.undo());
        CHECKS.due("position(0)", 3, x.position(0));
        CHECKS.due("undo", NONE, x.undo());
        for (int n = 0; n < 25; n++) {
            CHECKS.due("put " + n, n == 0 ? 3 : n - 13, x.put(0, n - 12));
            CHECKS.due("at most 20", Math.min(20, n + 1), x.count(9));
        }
        for (int n = 19; n >= 0; n--) {
            CHECKS.due("undo " + n, n, x.undo());
            CHECKS.due("position", n - 8, x.position(0));
        }
        CHECKS.due("the eldest are forgotten", NONE, x.undo());
        CHECKS.due("position", -8, x.position(0));
    }

    private static int[] directionsOf(String text) {
        return directions(Checks.setter(text));
    }

    /** Promise 7. */
    private static void ways() {
        CHECKS.dueAll("MIXED", directionsOf(MIXED), -1, 1, 1, 1, -1, -1, -1, 1);
        CHECKS.dueAll("the highest is farther", directionsOf("note 8 -3;note 8 4;"), -1, -1);
        CHECKS.dueAll("the lowest is farther", directionsOf("note 8 -4;note 8 3;"), 1, 1);
        CHECKS.dueAll("sum above 0", directionsOf("metre 1 2;note 16 -4;note 16 4;note 16 1;"), -1, -1, -1);
        CHECKS.dueAll("sum below 0", directionsOf("metre 1 2;note 16 4;note 16 -4;note 16 -1;"), 1, 1, 1);
        CHECKS.dueAll("sum 0, first above", directionsOf("note 8 4;note 8 -4;"), -1, -1);
        CHECKS.dueAll("sum 0, first below", directionsOf("note 8 -4;note 8 4;"), 1, 1);
        CHECKS.dueAll("sum 0, first 0", directionsOf("metre 1 2;note 16 0;note 16 -4;note 16 4;"), -1, -1, -1);
        CHECKS.dueAll("all above 0", directionsOf("note 8 2;note 8 5;"), -1, -1);
        CHECKS.dueAll("all below 0", directionsOf("note 8 -1;note 8 -5;"), 1, 1);
        // None above 0 and none below: 0, 0.
        CHECKS.dueAll("all at 0", directionsOf("note 8 0;note 8 0;"), -1, -1);
        CHECKS.dueAll("a gap of KNEE", directionsOf("note 8 -4;note 8 5;"), 1, -1);
        CHECKS.dueAll("a gap less than KNEE", directionsOf("note 8 -3;note 8 5;"), -1, -1);
        CHECKS.dueAll("KNEE 4", directionsOf("knee 4;note 8 1;note 8 5;"), 1, -1);
        CHECKS.dueAll("KNEE 24", directionsOf("knee 24;note 8 12;note 8 -12;"), -1, 1);
        CHECKS.dueAll("the greatest gap", directionsOf("knee 4;metre 1 2;note 8 -8;note 16 -4;note 16 8;note 16 3;"),
                1, 1, -1, -1);
        // Gaps -10 .. -2 and -2 .. 6: the latter's sides, added, are nearer to 0.
        CHECKS.dueAll("the middle gap", directionsOf("knee 5;metre 1 2;note 16 -10;note 16 -2;note 16 6;"),
                1, 1, -1);
        // Gaps -8 .. 0 and 0 .. 8 are as near: the lower one.
        CHECKS.dueAll("the lower gap", directionsOf("knee 5;metre 1 2;note 16 8;note 16 0;note 16 -8;note 16 0;"),
                -1, -1, 1, -1);
        BeamSetter x = Checks.setter("note 8 3;rest 8;note 4 1;note 8 -1;note 8 -2;");
        CHECKS.due("a note of no GROUP", 0, x.direction(0));
        CHECKS.due("a rest", 0, x.direction(1));
        CHECKS.due("kind 4", 0, x.direction(2));
        CHECKS.due("no such ELEMENT", NOTHING, x.direction(5));
        CHECKS.due("no such ELEMENT", NOTHING, x.direction(-1));
        BeamSetter y = Checks.setter("note 8 3;note 8 2;");
        y.put(0, -6);
        CHECKS.dueAll("anew when it is PUT", directions(y), 1, 1);
        y.put(1, 6);
        CHECKS.dueAll("a knee when it is PUT", directions(y), 1, -1);
    }

    /** Promise 10. */
    private static void groups() {
        BeamSetter x = Checks.setter(MIXED);
        CHECKS.due("GROUPS", 3, x.count(3));
        CHECKS.dueAll("group 0", groups(x, 0), 0, 2, 1, 16, 1, 66, 1);
        CHECKS.dueAll("group 1", groups(x, 1), 2, 2, 0, 16, 1, 487, 2);
        CHECKS.dueAll("group 2", groups(x, 2), 4, 4, 1, 36, 2, 184, 1);
        CHECKS.dueAll("none ALLOWED", groups(Checks.setter(NEVER), 0), 0, 4, 1, 48, 1, 0, 2);
        CHECKS.dueAll("BEAMS of several kinds", groups(Checks.setter(STUBS), 0), 0, 7, 0, 70, 3, 329, 0);
        CHECKS.noIndex("group(3, 0)", () -> x.group(3, 0));
        CHECKS.noIndex("group(-1, 0)", () -> x.group(-1, 0));
        CHECKS.noIndex("group(3, 7)", () -> x.group(3, 7));
        CHECKS.noIndex("group(most, -1)", () -> x.group(Integer.MAX_VALUE, -1));
        CHECKS.noElement("group(2, 7)", () -> x.group(2, 7));
        CHECKS.noElement("group(0, -1)", () -> x.group(0, -1));
        CHECKS.due("a rest parts", 0, Checks.setter("note 16 0;rest 16;note 16 0;").count(3));
        CHECKS.due("a note of kind 4 parts", 0, Checks.setter("split 4;note 8 0;note 4 0;note 8 0;").count(3));
        CHECKS.due("a PART ends", 0, Checks.setter("rest 8;note 8 0;note 8 0;rest 8;").count(3));
        CHECKS.due("a MEASURE ends", 0, Checks.setter("metre 1 8;note 8 0;note 8 0;").count(3));
        CHECKS.due("the same PART of two MEASURES", 2,
                Checks.setter("metre 1 4;note 8 0;note 8 0;note 8 0;note 8 0;").count(3));
        BeamSetter y = Checks.setter("split 4;" + Checks.repeated("note 8 1;", 8) + "note 8 0;");
        CHECKS.due("as many as there are so", 8, y.group(0, 1));
        CHECKS.due("one alone is none", -2, y.element(8, 6));
        BeamSetter z = Checks.setter("metre 12 2;split 12;" + Checks.repeated("note 32 1;", 64));
        CHECKS.due("all 64", 64, z.group(0, 1));
        BeamSetter two = Checks.setter("metre 2 8;split 2;" + Checks.repeated("note 8 1;", 64));
        CHECKS.due("most GROUPS", 32, two.count(3));
        CHECKS.due("last GROUP", 62, two.group(31, 0));
    }

    /** Promises 11, 12. */
    private static void wantAndIdeal() {
        CHECKS.due("rises", 3, Checks.setter("note 8 0;note 8 3;").want(0));
        CHECKS.due("falls", -4, Checks.setter("note 8 0;note 8 -4;").want(0));
        CHECKS.due("5 at most", 5, Checks.setter("note 8 0;note 8 6;").want(0));
        CHECKS.due("-5 at least", -5, Checks.setter("note 8 6;note 8 -1;").want(0));
        CHECKS.due("DOWN, below both", 0, Checks.setter("metre 1 2;note 16 3;note 16 0;note 16 1;").want(0));
        CHECKS.due("DOWN, as low as one", -2, Checks.setter("metre 1 2;note 16 3;note 16 1;note 16 1;").want(0));
        CHECKS.due("DOWN, above both", -2, Checks.setter("metre 1 2;note 16 3;note 16 4;note 16 1;").want(0));
        CHECKS.due("UP, above both", 0, Checks.setter("metre 1 2;note 16 -3;note 16 0;note 16 -1;").want(0));
        CHECKS.due("UP, as high as one", 2, Checks.setter("metre 1 2;note 16 -3;note 16 -1;note 16 -1;").want(0));
        CHECKS.due("UP, below both", 2, Checks.setter("metre 1 2;note 16 -3;note 16 -4;note 16 -1;").want(0));
        CHECKS.due("KNEED, a NOTE between", 1, Checks.setter("metre 1 2;note 16 -3;note 16 9;note 16 -2;").want(0));
        CHECKS.due("KNEED", 5, Checks.setter("note 8 -6;note 8 6;").want(0));
        BeamSetter x = Checks.setter(MIXED);
        CHECKS.due("no such GROUP", NOTHING, x.want(3));
        CHECKS.due("no such GROUP", NOTHING, x.want(-1));
        CHECKS.due("IDEAL of 1 BEAM", 14, x.ideal(0));
        CHECKS.due("IDEAL of 2 BEAMS", 15, x.ideal(4));
        CHECKS.due("IDEAL towards 0, UP", 24, x.ideal(7));
        CHECKS.due("IDEAL of 3 BEAMS", 17, Checks.setter(STUBS).ideal(3));
        CHECKS.due("IDEAL towards 0, DOWN", 24, Checks.setter("note 8 12;note 8 12;").ideal(0));
        CHECKS.due("IDEAL not less than 14", 14, Checks.setter("note 8 7;note 8 7;").ideal(0));
        CHECKS.due("IDEAL more than 14", 16, Checks.setter("note 8 8;note 8 8;").ideal(0));
        CHECKS.due("IDEAL away from 0", 14, Checks.setter("knee 24;note 8 12;note 8 -10;").ideal(1));
        BeamSetter y = Checks.setter("note 8 3;rest 8;note 4 1;note 8 -1;note 8 -2;");
        CHECKS.due("a note of no GROUP", -2, y.ideal(0));
        CHECKS.due("a rest", -2, y.ideal(1));
        CHECKS.due("no such ELEMENT", NONE, y.ideal(5));
        CHECKS.due("no such ELEMENT", NONE, y.ideal(-1));
    }

    private static void ugly(String what, BeamSetter x, int l, int r, int... want) {
        int[] got = {x.ugliness(0, l, r, 0), x.ugliness(0, l, r, 1), x.ugliness(0, l, r, 2), x.ugliness(0, l, r, 3)};
        CHECKS.dueAll(what + " " + l + " " + r, got, want);
    }

    /** Promise 13. */
    private static void ugliness() {
        BeamSetter x = Checks.setter("note 8 0;note 8 0;");
        ugly("longer", x, -15, -16, 9, 3, 6, 0);
        ugly("shorter", x, -12, -13, 12, 6, 6, 0);
        ugly("shortest", x, -10, -10, 16, 16, 0, 0);
        ugly("too short", x, -10, -9, -2, -2, -2, -2);
        ugly("longest", x, -44, -44, 60, 60, 0, 0);
        ugly("too long", x, -44, -45, -2, -2, -2, -2);
        ugly("too steep", x, -10, -19, NONE, NONE, NONE, NONE);
        ugly("steep", x, -10, -18, 60, 12, 48, 0);
        ugly("too high", x, -61, -60, NONE, NONE, NONE, NONE);
        ugly("too high", x, -60, -61, NONE, NONE, NONE, NONE);
        ugly("high", x, -60, -60, -2, -2, -2, -2);
        ugly("high", x, 60, 60, -2, -2, -2, -2);
        ugly("too high", x, 60, 61, NONE, NONE, NONE, NONE);
        ugly("extreme", x, Integer.MIN_VALUE, Integer.MAX_VALUE, NONE, NONE, NONE, NONE);
        ugly("extreme", x, Integer.MAX_VALUE, Integer.MIN_VALUE, NONE, NONE, NONE, NONE);
        CHECKS.due("no such what", NONE, x.ugliness(0, -14, -14, 4));
        CHECKS.due("no such what", NONE, x.ugliness(0, -14, -14, -1));
        CHECKS.due("no such what goes first", NONE, x.ugliness(0, 0, 0, 4));
        CHECKS.due("no such GROUP", NONE, x.ugliness(1, -14, -14, 0));
        CHECKS.due("no such GROUP", NONE, x.ugliness(-1, -14, -14, 0));
        // 11 at least of 2 BEAMS, 13 of 3, of each NOTE.
        ugly("2 BEAMS", Checks.setter("note 16 0;note 16 0;"), -11, -11, 20, 16, 0, 4);
        ugly("2 BEAMS", Checks.setter("note 16 0;note 16 0;"), -11, -10, -2, -2, -2, -2);
        ugly("3 BEAMS", Checks.setter("note 32 0;note 32 0;"), -13, -13, 16, 16, 0, 0);
        ugly("3 BEAMS", Checks.setter("note 32 0;note 32 0;"), -12, -13, -2, -2, -2, -2);
        ugly("of each NOTE", Checks.setter("note 32 0;note 8 0;"), -13, -10, 34, 16, 18, 0);
        // A slope against WANT: 6 times 4 and 20; a slope of 0 is against nothing.
        ugly("against", Checks.setter("note 8 0;note 8 3;"), -12, -13, 53, 9, 44, 0);
        ugly("level", Checks.setter("note 8 0;note 8 3;"), -12, -12, 26, 8, 18, 0);
        // DOWN at 6: heights of the beam right on the staff.
        BeamSetter y = Checks.setter("note 8 6;note 8 6;");
        ugly("2 of 4", y, -2, -2, 50, 0, 0, 50);
        ugly("0 of 4, level", y, 0, 0, 12, 8, 0, 4);
        ugly("1 of 4, level", y, 1, 1, 12, 12, 0, 0);
        ugly("3 of 4, level", y, -1, -1, 4, 4, 0, 0);
        // From 0 up to 1: at 0 it goes up (1), at 1 it goes down towards the other end (8).
        ugly("0 and 1, rising", y, 0, 1, 25, 10, 6, 9);
        // From 1 down to 0.
        ugly("1 and 0, falling", y, 1, 0, 25, 10, 6, 9);
        // From -1 (3 of 4) up to 0: 8 and 1.
        ugly("3 and 0, rising", y, -1, 0, 21, 6, 6, 9);
        // From -1 (3 of 4) down to -3 (1 of 4), from which it goes up: nothing.
        ugly("3 and 1, falling", y, -1, -3, 15, 3, 12, 0);
    }

    private static void staff() {
        // 9 counts (1 of 4), 10 doesn't (2 of 4).
        BeamSetter up = Checks.setter("note 8 -2;note 8 -2;");
        ugly("at 10", up, 10, 10, 0, 0, 0, 0);
        ugly("at 9 from 10", up, 9, 10, 8, 2, 6, 0);
        ugly("at 9 to 7", up, 9, 7, 36, 8, 12, 16);
        // Three BEAMS: the next ones of DOWN stems are higher, those of UP stems lower.
        BeamSetter three = Checks.setter("note 32 5;note 32 5;");
        ugly("-10, -7, -4", three, -10, -10, 10, 6, 0, 4);
        ugly("-8, -5, -2", three, -8, -8, 56, 2, 0, 54);
        BeamSetter raised = Checks.setter("note 32 -5;note 32 -5;");
        ugly("10, 7, 4", raised, 10, 10, 10, 6, 0, 4);
        ugly("8, 5, 2", raised, 8, 8, 56, 2, 0, 54);
        ugly("8, 5, 2, to 6, 3, 0", raised, 8, 6, 83, 3, 12, 68);
    }

    /** Promises 14, 15, 16. */
    private static void best() {
        BeamSetter x = Checks.setter(MIXED);
        CHECKS.dueAll("best(0)", bests(x, 0), -1, -1, 42, 12, 30, 0);
        CHECKS.dueAll("best(1)", bests(x, 1), 13, 16, 3, 3, 0, 0);
        CHECKS.dueAll("best(2)", bests(x, 2), -4, -8, 34, 26, 6, 2);
        CHECKS.dueAll("ranked(2, 0)", rankeds(x, 2, 0), -4, -8, 34, 26, 6, 2);
        CHECKS.dueAll("ranked(2, 1)", rankeds(x, 2, 1), -4, -7, 36, 23, 12, 1);
        CHECKS.dueAll("ranked(2, 4)", rankeds(x, 2, 4), -4, -10, 39, 32, 6, 1);
        CHECKS.dueAll("none ALLOWED", bests(Checks.setter(NEVER), 0), NOTHING, NOTHING, NOTHING, NOTHING, NOTHING,
                NOTHING);
        CHECKS.due("no such GROUP", NOTHING, x.best(3, 0));
        CHECKS.due("no such GROUP", NOTHING, x.best(-1, 0));
        CHECKS.due("no such what", NOTHING, x.best(0, 6));
        CHECKS.due("no such what", NOTHING, x.best(0, -1));
        CHECKS.due("no such GROUP", NOTHING, x.ranked(3, 0, 0));
        CHECKS.due("no such RANK", NOTHING, x.ranked(0, -1, 0));
        CHECKS.due("no such RANK", NOTHING, x.ranked(0, 66, 0));
        CHECKS.due("no such RANK", NOTHING, x.ranked(0, Integer.MAX_VALUE, 0));
        CHECKS.due("no such what", NOTHING, x.ranked(0, 0, 6));
        CHECKS.due("no such what", NOTHING, x.ranked(0, 0, -1));
        CHECKS.due("none ALLOWED", NOTHING, Checks.setter(NEVER).ranked(0, 0, 0));
        CHECKS.due("rank", 0, x.rank(2, -4, -8));
        CHECKS.due("rank", 4, x.rank(2, -4, -10));
        CHECKS.due("not ALLOWED", -2, x.rank(2, 40, 40));
        CHECKS.due("no SETTING", NONE, x.rank(2, 0, 9));
        CHECKS.due("no SETTING", NONE, x.rank(2, 61, 60));
        CHECKS.due("no SETTING", NONE, x.rank(2, Integer.MAX_VALUE, Integer.MIN_VALUE));
        CHECKS.due("no such GROUP", NONE, x.rank(3, 0, 0));
        CHECKS.due("no such GROUP", NONE, x.rank(-1, 0, 0));
        allRanks(MIXED, 0);
        allRanks(MIXED, 2);
    }

    /** Each one asked of an object of its own: none is used for more than 512 calls. */
    private static void allRanks(String text, int g) {
        int before = -1;
        int many = Checks.setter(text).group(g, 5);
        for (int k = 0; k < many; k++) {
            BeamSetter x = Checks.setter(text);
            int ugly = x.ranked(g, k, 2);
            CHECKS.due("uglier or as ugly " + k, 1, ugly >= before ? 1 : 0);
            CHECKS.due("rank of " + k, k, x.rank(g, x.ranked(g, k, 0), x.ranked(g, k, 1)));
            before = ugly;
        }
    }

    /** What goes first of several that are as ugly. */
    private static void order() {
        // UGLINESS 4: -13 has shorter stems than -16; 7: (-14, -15) and (-15, -14), the first NOTE DOWN.
        BeamSetter x = Checks.setter("note 8 0;note 8 0;");
        CHECKS.due("shorter stems", 2, x.rank(0, -13, -13));
        CHECKS.due("longer stems", 3, x.rank(0, -16, -16));
        CHECKS.due("DOWN, L greatest", 5, x.rank(0, -14, -15));
        CHECKS.due("DOWN, L less", 6, x.rank(0, -15, -14));
        // UP: L least goes first; both have stems 28, 29 long.
        BeamSetter y = Checks.setter("note 8 -5;note 8 -5;");
        CHECKS.due("as ugly", y.ugliness(0, 10, 11, 0), y.ugliness(0, 11, 10, 0));
        CHECKS.due("UP, L least", 1, y.rank(0, 11, 10) - y.rank(0, 10, 11));
        // WANT is 1: a level beam costs 6 and is the BEST, for one of slope 1 costs 6, too, by stems and staff.
        BeamSetter w = Checks.setter("metre 2 2;split 2;note 32 -2;note 32 -2;note 16 -1;note 16 -1;");
        CHECKS.dueAll("the level one", bests(w, 0), 13, 13, 6, 0, 6, 0);
        CHECKS.dueAll("the sloping one", rankeds(w, 0, 1), 14, 15, 6, 5, 0, 1);
        // UGLINESS 34 of both: unlike by 1 goes ahead of unlike by 2, though its stems are longer.
        BeamSetter z = Checks.setter(STUBS);
        CHECKS.due("as ugly", z.ugliness(0, -18, -16, 0), z.ugliness(0, -19, -18, 0));
        CHECKS.due("less unlike", 5, z.rank(0, -19, -18));
        CHECKS.due("more unlike", 6, z.rank(0, -18, -16));
    }

    /** Promises 17, 18. */
    private static void stemsAndTouch() {
        BeamSetter x = Checks.setter(MIXED);
        CHECKS.dueAll("stem(4)", stems(x, 4), 12, 1, -4, 1);
        CHECKS.dueAll("stem(5)", stems(x, 5), 46, 3, -16, 3);
        CHECKS.dueAll("stem(6)", stems(x, 6), 56, 3, -20, 3);
        CHECKS.dueAll("stem(7)", stems(x, 7), 16, 1, -8, 1);
        CHECKS.dueAll("stem(2)", stems(x, 2), 17, 1, 13, 1);
        // A height of 0 in lowest terms: 0 by 1.
        CHECKS.dueAll("height 0", stems(Checks.setter("note 8 -12;note 16 -12;note 16 12;"), 0), 24, 1, 0, 1);
        CHECKS.dueAll("none ALLOWED", stems(Checks.setter(NEVER), 0), NOTHING, NOTHING, NOTHING, NOTHING);
        CHECKS.dueAll("no such ELEMENT", stems(x, 8), NOTHING, NOTHING, NOTHING, NOTHING);
        CHECKS.dueAll("no such ELEMENT", stems(x, -1), NOTHING, NOTHING, NOTHING, NOTHING);
        CHECKS.dueAll("of no GROUP", stems(Checks.setter("note 8 1;rest 8;"), 0), NOTHING, NOTHING, NOTHING, NOTHING);
        CHECKS.due("no such what", NOTHING, x.stem(4, 4));
        CHECKS.due("no such what", NOTHING, x.stem(4, -1));
        // L -4: 0; its next BEAM, DOWN, at -1: 3. R -8: 0; UP, at -11: not there.
        CHECKS.due("touch", 0, x.touch(2, 0, 0));
        CHECKS.due("touch", 3, x.touch(2, 0, 1));
        CHECKS.due("touch", 0, x.touch(2, 1, 0));
        CHECKS.due("not on the staff", -3, x.touch(2, 1, 1));
        CHECKS.due("no such BEAM", NONE, x.touch(2, 0, 2));
        CHECKS.due("no such BEAM", NONE, x.touch(2, 0, -1));
        CHECKS.due("no such end", NONE, x.touch(2, 2, 0));
        CHECKS.due("no such end", NONE, x.touch(2, -1, 0));
        CHECKS.due("no such GROUP", NONE, x.touch(3, 0, 0));
        CHECKS.due("no such GROUP", NONE, x.touch(-1, 0, 0));
        CHECKS.due("none ALLOWED", -2, Checks.setter(NEVER).touch(0, 0, 0));
        CHECKS.due("none ALLOWED, no such BEAM", NONE, Checks.setter(NEVER).touch(0, 1, 1));
        // KNEED, L -5 and R -5: at the last NOTE, DOWN, the next BEAM is at -2.
        CHECKS.due("2 of 4", 2, Checks.setter("metre 1 4;note 8 -8;note 16 8;note 16 3;").touch(0, 1, 1));
        CHECKS.due("at 9", 1, Checks.setter("note 8 -8;note 8 0;").touch(0, 0, 0));
        CHECKS.due("at 14", -3, Checks.setter("note 8 -8;note 8 0;").touch(0, 1, 0));
        CHECKS.due("at -9", 3, Checks.setter("note 8 3;note 8 3;").touch(0, 0, 0));
    }

    /** Promise 19. */
    private static void beamsOfNotes() {
        BeamSetter x = Checks.setter(STUBS);
        CHECKS.dueAll("the first NOTE", beams(x, 0), 0, 1, 0, 1);
        CHECKS.dueAll("less than both", beams(x, 1), 1, 1, 0, 0);
        CHECKS.dueAll("to the right", beams(x, 2), 1, 2, 0, 0);
        CHECKS.dueAll("beams(3)", beams(x, 3), 2, 3, 0, 0);
        CHECKS.dueAll("beams(4)", beams(x, 4), 3, 2, 0, 0);
        CHECKS.dueAll("the last NOTE", beams(x, 6), 1, 0, 0, 0);
        CHECKS.dueAll("the last NOTE's stub", beams(Checks.setter("note 8 0;note 32 0;"), 1), 1, 0, 2, 0);
        // Between two of 1 BEAM: TIME 2 by LONG 2 is odd, TIME 4 by LONG 2 is even.
        CHECKS.dueAll("odd", beams(Checks.setter("split 4;rest 16;rest 32;note 8 0;note 32 1;note 8 2;"), 3), 1, 1, 2, 0);
        CHECKS.dueAll("even", beams(Checks.setter("split 4;note 8 0;note 16 1;note 8 2;"), 1), 1, 1, 0, 1);
        CHECKS.dueAll("downwards", beams(Checks.setter("split 4;rest 32;note 8 0;note 16 1;note 8 2;"), 2), 1, 1, 0, 1);
        CHECKS.dueAll("odd, downwards", beams(Checks.setter("split 4;rest 16;rest 32;note 8 0;note 16 1;note 8 2;"), 3),
                1, 1, 1, 0);
        CHECKS.dueAll("within the MEASURE", beams(Checks.setter("metre 3 8;rest 8;rest 8;rest 8;note 8 0;note 16 1;"
                + "note 8 2;"), 4), 1, 1, 0, 1);
        CHECKS.dueAll("more on the left", beams(Checks.setter("split 4;note 16 0;note 32 1;note 8 2;"), 1), 2, 1, 1, 0);
        CHECKS.dueAll("more on the right", beams(Checks.setter("split 4;rest 32;note 8 0;note 32 1;note 16 2;"), 2),
                1, 2, 0, 1);
        BeamSetter y = Checks.setter("note 8 3;rest 8;note 4 1;note 8 1;note 8 2;note 8 1;note 16 3;note 16 3;");
        CHECKS.dueAll("of no GROUP", beams(y, 0), -2, -2, -2, -2);
        CHECKS.dueAll("a rest", beams(y, 1), -2, -2, -2, -2);
        CHECKS.dueAll("another GROUP behind", beams(y, 4), 1, 0, 0, 0);
        CHECKS.dueAll("another GROUP ahead", beams(y, 5), 0, 1, 0, 0);
        CHECKS.dueAll("no such ELEMENT", beams(y, 8), NONE, NONE, NONE, NONE);
        CHECKS.dueAll("no such ELEMENT", beams(y, -1), NONE, NONE, NONE, NONE);
        CHECKS.due("no such what", NONE, y.beams(4, 4));
        CHECKS.due("no such what", NONE, y.beams(4, -1));
        CHECKS.due("no such what goes first", NONE, y.beams(0, 4));
    }

    private static int[] totals(BeamSetter x) {
        return new int[] {x.total(0), x.total(1), x.total(2), x.total(3)};
    }

    /** Promise 20. */
    private static void totals() {
        CHECKS.dueAll("MIXED", totals(Checks.setter(MIXED)), 79, 0, 0, 2);
        CHECKS.dueAll("none ALLOWED", totals(Checks.setter(NEVER)), 0, 1, -2, 1);
        CHECKS.dueAll("one is aside", totals(Checks.setter(NEVER.replace("note 8 -6", "note 8 0;note 8 0;rest 4;"
                + "rest 4;rest 4;rest 4;rest 4;rest 4;rest 4;note 8 -6"))), 0, 1, 0, 1);
        CHECKS.dueAll("the first of several", totals(Checks.setter("note 8 0;note 8 0;note 8 2;note 8 -1;note 8 2;"
                + "note 8 -1;")), 6, 0, 1, 0);
        CHECKS.dueAll("no GROUPS", totals(new BeamSetter()), 0, 0, -2, 0);
        CHECKS.due("no such what", NONE, new BeamSetter().total(4));
        CHECKS.due("no such what", NONE, new BeamSetter().total(-1));
    }

    public static void main(String[] args) {
        putting();
        ways();
        groups();
        wantAndIdeal();
        ugliness();
        staff();
        best();
        order();
        stemsAndTouch();
        beamsOfNotes();
        totals();
        CHECKS.end();
    }
}
