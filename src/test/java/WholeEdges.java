/**
 * "What it is": each clause held against calls that lead to the same by another way, over some texts. Where it takes
 * many calls, objects are made anew: none is used for more than 512.
 */
final class WholeEdges {
    private static final int NONE = BeamSetter.NONE;
    private static final int NOTHING = BeamSetter.NOTHING;
    private static final int HIGHEST = 60;
    private static final int STEEPEST = 8;
    private static final String MIXED = "note 16 -3;note 8 0;note 16 2;note 8 -6;note 8 6;rest 8;note 8 1;note 4 -2;"
            + "note 8 3;note 32 5;note 32 -7;note 16 -4;note 8 9;note 16 7;note 16 8;";

    private final Edges edges;

    WholeEdges(Edges edges) {
        this.edges = edges;
    }

    private static String text(int knee, String split, String notes) {
        return "knee " + knee + ";metre 3 4;" + split + notes;
    }

    /** With a knee and without, a GROUP a BEAT and one a MEASURE, one that can't be set. */
    private static String[] texts() {
        return new String[] {text(9, "", MIXED), text(9, "split 3;", MIXED), text(6, "split 2 1;", MIXED),
            text(24, "split 1 2;", MIXED), text(4, "", "note 8 -2;note 8 2;note 16 -3;note 8 0;note 16 2;")};
    }

    private void measures() {
        edges.whatItIs("A setter of beams: notes and rests in measures, parted into groups by beats;");
        BeamSetter x = Checks.setter(texts()[0]);
        int[] measures = {0, 0, 0, 0, 0, 0, 0, 1, 1, 1, 1, 1, 1, 1, 1};
        int[] parts = {0, 0, 0, 1, 1, 2, 2, 0, 1, 1, 1, 1, 2, 2, 2};
        int[] groups = {0, 0, 0, 1, 1, -2, -2, -2, 2, 2, 2, 2, 3, 3, 3};
        for (int i = 0; i < groups.length; i++) {
            edges.dueAll("MEASURE, PART, GROUP, is it a note: " + i,
                    new int[] {x.element(i, 3), x.element(i, 4), x.element(i, 6), x.element(i, 1)},
                    measures[i], parts[i], groups[i], i == 5 ? 0 : 1);
        }
        edges.due("GROUPS", 4, x.count(3));
    }

    private void ways() {
        edges.whatItIs("stems up or down, groups with a knee between;");
        BeamSetter x = Checks.setter(texts()[0]);
        edges.dueAll("directions", Scores.directions(x), 1, 1, 1, 1, -1, 0, 0, 0, 1, 1, 1, 1, -1, -1, -1);
        edges.dueAll("KNEED", new int[] {x.group(0, 2), x.group(1, 2), x.group(2, 2), x.group(3, 2)}, 0, 1, 0, 0);
    }

    // ---- all heights of a beam

    private void heights() {
        edges.whatItIs("for each group all heights of a beam at its ends by which stems are within their limits, each judged "
                + "by stems, by the slope, by how beams touch the lines of the staff; the best one, the next ones;");
        for (String text : texts()) {
            for (int g = 0; g < Checks.setter(text).count(3); g++) {
                judged(text, g);
                sorted(text, g);
            }
        }
    }

    private void judged(String text, int g) {
        int allowed = 0;
        int wrong = 0;
        for (int l = -HIGHEST; l <= HIGHEST; l++) {
            BeamSetter x = Checks.setter(text);
            for (int r = Math.max(-HIGHEST, l - STEEPEST); r <= Math.min(HIGHEST, l + STEEPEST); r++) {
                int ugly = x.ugliness(g, l, r, 0);
                boolean is = ugly != -2;
                allowed += is ? 1 : 0;
                int parts = x.ugliness(g, l, r, 1) + x.ugliness(g, l, r, 2) + x.ugliness(g, l, r, 3);
                wrong += is == (x.rank(g, l, r) != -2) && (!is || ugly == parts) ? 0 : 1;
            }
        }
        edges.due("ALLOWED of GROUP " + g + ", " + text, Checks.setter(text).group(g, 5), allowed);
        edges.due("judged by other than the three, GROUP " + g + ", " + text, 0, wrong);
    }

    private void sorted(String text, int g) {
        int many = Checks.setter(text).group(g, 5);
        int wrong = 0;
        for (int k = 0; k < many; k++) {
            BeamSetter x = Checks.setter(text);
            int l = x.ranked(g, k, 0);
            int r = x.ranked(g, k, 1);
            boolean next = k == 0 || x.ranked(g, k - 1, 2) <= x.ranked(g, k, 2);
            wrong += next && x.rank(g, l, r) == k && x.ugliness(g, l, r, 0) == x.ranked(g, k, 2) ? 0 : 1;
        }
        BeamSetter x = Checks.setter(text);
        edges.due("out of their RANK, GROUP " + g + ", " + text, 0, wrong);
        edges.dueAll("the best one of GROUP " + g + ", " + text, Scores.bests(x, g), Scores.rankeds(x, g, 0));
        edges.due("beyond the last one of GROUP " + g + ", " + text, NOTHING, x.ranked(g, many, 2));
    }

    // ---- BEAMS

    private void beams() {
        edges.whatItIs("beams to the left and to the right of each note, stubs;");
        for (String text : texts()) {
            BeamSetter x = Checks.setter(text);
            for (int i = 0; i < x.count(1); i++) {
                if (x.element(i, 6) >= 0) {
                    boolean last = i + 1 == x.count(1) || x.element(i + 1, 6) != x.element(i, 6);
                    edges.due("RIGHT of " + i + " is LEFT of the next, " + text, last ? 0 : x.beams(i + 1, 0), x.beams(i, 1));
                    int most = Math.max(x.beams(i, 0) + x.beams(i, 2), x.beams(i, 1) + x.beams(i, 3));
                    edges.due("all BEAMS of " + i + " go somewhere, " + text, x.element(i, 7), most);
                }
            }
        }
    }

    // ---- what it would be

    private static void putAll(BeamSetter x, int turn, int higher) {
        for (int i = 0; i < x.count(1); i++) {
            x.put(i, turn * x.position(i) + higher);
        }
    }

    private void elsewhere(String text) {
        for (int i = 0; i < Checks.setter(text).count(1); i++) {
            BeamSetter x = Checks.setter(text);
            for (int p = -12; p <= 12; p++) {
                BeamSetter y = Checks.setter(text);
                y.put(i, p);
                edges.due("ifPut(" + i + ", " + p + ", 2), " + text, y.best(y.element(i, 6), 2), x.ifPut(i, p, 2));
            }
        }
        BeamSetter x = Checks.setter(text);
        for (int t = -3; t <= 3; t++) {
            BeamSetter y = Checks.setter(text);
            putAll(y, 1, t);
            for (int what = 0; what < 4; what++) {
                edges.due("ifShifted(" + t + ", " + what + "), " + text, y.total(what), x.ifShifted(t, what));
            }
        }
        BeamSetter turned = Checks.setter(text);
        putAll(turned, -1, 0);
        for (int g = 0; g < x.count(3); g++) {
            boolean both = x.group(g, 5) > 0 && turned.group(g, 5) > 0;
            boolean is = x.best(g, 0) == -turned.best(g, 0) && x.best(g, 1) == -turned.best(g, 1);
            edges.due("mirrored(" + g + "), " + text, both ? is ? 1 : 0 : -2, x.mirrored(g));
        }
    }

    private void others() {
        edges.whatItIs("what it would be were a note elsewhere, all higher or lower, mirrored, the beats or the knee others;");
        for (String text : texts()) {
            elsewhere(text);
        }
        String[] splits = {"split 1 1 1;", "split 2 1;", "split 3;"};
        BeamSetter x = Checks.setter(text(9, "split 1 2;", MIXED));
        for (int n = 1; n <= 12; n++) {
            BeamSetter y = Checks.setter(text(9, splits[Math.min(n, 3) - 1], MIXED));
            edges.due("ifParts(" + n + ")", y.count(3), x.ifParts(n));
        }
        for (int knee = 4; knee <= 24; knee++) {
            BeamSetter y = Checks.setter(text(knee, "split 1 2;", MIXED));
            for (int what = 0; what < 4; what++) {
                edges.due("ifKnee(" + knee + ", " + what + ")", y.total(what), x.ifKnee(knee, what));
            }
        }
    }

    private void back() {
        edges.whatItIs("notes put elsewhere and back.");
        for (String text : texts()) {
            BeamSetter x = Checks.setter(text);
            int[] before = Scores.totals(x);
            for (int i = 0; i < x.count(1); i++) {
                int there = x.position(i);
                edges.due("put(" + i + ", 12), " + text, there, x.put(i, 12));
                edges.due("position(" + i + "), " + text, there == NOTHING ? NOTHING : 12, x.position(i));
            }
            edges.dueAll("all alike, " + text, new int[] {x.total(1), x.total(3), x.want(0)}, 0, 0, 0);
            for (int left = x.count(9) - 1; left >= 0; left--) {
                edges.due("undo(), " + text, left, x.undo());
            }
            edges.due("undo() of nothing, " + text, NONE, x.undo());
            edges.dueAll("total, " + text, Scores.totals(x), before);
            edges.dueAll("directions, " + text, Scores.directions(x), Scores.directions(Checks.setter(text)));
        }
    }

    void check() {
        measures();
        ways();
        heights();
        beams();
        others();
        back();
    }
}
