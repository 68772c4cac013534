import java.util.ArrayList;
import java.util.List;
import java.util.NoSuchElementException;

/** "What it is" and part 3 of the terms: how often, what stays, what goes first, what is forgotten. */
final class StateEdges {
    private static final int NONE = BeamSetter.NONE;
    private static final int NOTHING = BeamSetter.NOTHING;
    private static final int MOST_CALLS = 512;
    /** KNEED, FLAT, a note of no GROUP, a rest, a note of kind 4, then a GROUP with STUBS. */
    private static final String MIXED = "knee 8;wide 16 10;note 8 -8;note 8 8;note 8 0;note 8 0;note 8 3;rest 8;note 4 -5;"
            + "note 16 1;note 8 2;note 32 3;note 32 -1;";

    private interface Ask {
        int on(BeamSetter x);
    }

    private record Named(String name, Ask ask) {
    }

    private final Edges edges;

    StateEdges(Edges edges) {
        this.edges = edges;
    }

    private static int answer(Ask ask, BeamSetter x) {
        try {
            return ask.on(x);
        } catch (NoSuchElementException e) {
            return 1000001;
        } catch (IndexOutOfBoundsException e) {
            // What the machine throws is of a class below this one.
            if (e.getClass() != IndexOutOfBoundsException.class) {
                throw e;
            }
            return 1000002;
        }
    }

    /** Each call that asks, some with what can't be, and calls that are refused. */
    private static List<Named> asks() {
        List<Named> all = new ArrayList<>();
        all.add(new Named("text(-1)", x -> x.text(-1)));
        all.add(new Named("text(21)", x -> x.text(21)));
        all.add(new Named("fault", x -> x.fault(0) + x.fault(1) + x.fault(2)));
        all.add(new Named("element(3, 6)", x -> x.element(3, 6)));
        all.add(new Named("element(-1, 0)", x -> x.element(-1, 0)));
        all.add(new Named("element(0, 8)", x -> x.element(0, 8)));
        all.add(new Named("position", x -> x.position(0) + x.position(99)));
        all.add(new Named("direction", x -> x.direction(0) + x.direction(99)));
        all.add(new Named("put(0, 13)", x -> x.put(0, 13)));
        all.add(new Named("put(5, 1), a rest", x -> x.put(5, 1)));
        all.add(new Named("put(99, 1)", x -> x.put(99, 1)));
        all.add(new Named("group(1, 5)", x -> x.group(1, 5)));
        all.add(new Named("group(9, 5)", x -> x.group(9, 5)));
        all.add(new Named("group(0, 9)", x -> x.group(0, 9)));
        all.add(new Named("want", x -> x.want(0) + x.want(9)));
        all.add(new Named("ideal", x -> x.ideal(0) + x.ideal(99)));
        all.add(new Named("ugliness", x -> x.ugliness(1, -13, -12, 0) + x.ugliness(1, 99, 99, 0)));
        all.add(new Named("best", x -> x.best(2, 0) + x.best(2, 9)));
        all.add(new Named("ranked", x -> x.ranked(1, 77, 0) + x.ranked(1, 7777, 0)));
        all.add(new Named("rank", x -> x.rank(2, -14, -13) + x.rank(2, 60, 60)));
        all.add(new Named("stem", x -> x.stem(1, 2) + x.stem(5, 0)));
        all.add(new Named("touch", x -> x.touch(0, 1, 0) + x.touch(0, 2, 0)));
        all.add(new Named("beams", x -> x.beams(8, 2) + x.beams(5, 0)));
        all.add(new Named("total", x -> x.total(0) + x.total(4)));
        all.add(new Named("ifPut(0, 12, 2)", x -> x.ifPut(0, 12, 2)));
        all.add(new Named("ifPut(2, -12, 0)", x -> x.ifPut(2, -12, 0)));
        all.add(new Named("wish", x -> x.wish(1) + x.wish(5)));
        all.add(new Named("ifShifted(2, 0)", x -> x.ifShifted(2, 0)));
        all.add(new Named("ifShifted(12, 0)", x -> x.ifShifted(12, 0)));
        all.add(new Named("shift", x -> x.shift()));
        all.add(new Named("mirrored", x -> x.mirrored(0) + x.mirrored(1)));
        all.add(new Named("ifKnee(24, 0)", x -> x.ifKnee(24, 0)));
        all.add(new Named("ifKnee(3, 0)", x -> x.ifKnee(3, 0)));
        all.add(new Named("ifParts(4)", x -> x.ifParts(4)));
        all.add(new Named("ifParts(0)", x -> x.ifParts(0)));
        all.add(new Named("alone", x -> x.alone(0) + x.alone(1)));
        all.add(new Named("stretches", x -> x.stretches(2, 2) + x.stretches(2, 0)));
        all.add(new Named("stretch", x -> x.stretch(2, 1, 0, 2) + x.stretch(2, 1, 9, 2)));
        all.add(new Named("level", x -> x.level(0, 1) + x.level(9, 0)));
        all.add(new Named("ifCut", x -> x.ifCut(2, 2) + x.ifCut(2, 0)));
        all.add(new Named("cut", x -> x.cut(2) + x.cut(9)));
        all.add(new Named("smooth", x -> x.smooth(3, 1) + x.smooth(121, 0)));
        all.add(new Named("smoothed", x -> x.smoothed(3, 1, 3) + x.smoothed(3, 9, 0)));
        all.add(new Named("single", x -> x.single(4, 2) + x.single(0, 0)));
        all.add(new Named("extreme", x -> x.extreme(2, 1) + x.extreme(9, 1)));
        all.add(new Named("count", x -> x.count(9) + x.count(15)));
        return all;
    }

    /** MIXED with notes that were PUT, a FAULT told, bytes on the TAPE. */
    private static BeamSetter mixed() {
        BeamSetter x = Checks.setter(MIXED);
        x.put(0, -9);
        x.put(4, 2);
        x.put(9, 4);
        Checks.say(x, "rest 8; x");
        x.feed(0x72657374, 0x20343b20, 0x20202020, 0x20202020, 0x20202020);
        return x;
    }

    private static String state(BeamSetter x) {
        StringBuilder text = new StringBuilder();
        for (int i = 0; i < x.count(1); i++) {
            text.append(x.position(i)).append(' ').append(x.direction(i)).append(' ').append(x.element(i, 6)).append(' ');
        }
        for (int what = 0; what < 15; what++) {
            text.append(x.count(what)).append(' ');
        }
        for (int what = 0; what < 4; what++) {
            text.append(x.total(what)).append(' ');
        }
        for (int g = 0; g < x.count(3); g++) {
            text.append(x.want(g)).append(' ').append(x.best(g, 0)).append(' ').append(x.best(g, 1)).append(' ');
        }
        return text.append(x.fault(0)).append(' ').append(x.fault(1)).toString();
    }

    // ---- as often as can be

    private void calls() {
        edges.whatItIs("An object is used for at most 512 calls after it has been made; what later calls answer is free.");
        // 32 GROUPS of two NOTES: 30 feeds and a text, then what takes the most.
        String text = "metre 1 4;" + "note 8 5;note 8 -3;".repeat(8) + "note 8 -9;note 8 2;".repeat(16)
                + "note 8 3;note 8 4;".repeat(8);
        List<Named> dear = List.of(new Named("shift", x -> x.shift()), new Named("smooth", x -> x.smooth(11, 1)),
                new Named("smoothed", x -> x.smoothed(120, 31, 3)), new Named("wish", x -> x.wish(17)),
                new Named("ranked", x -> x.ranked(3, 99, 0)), new Named("rank", x -> x.rank(31, -9, -8)),
                new Named("cut", x -> x.cut(5)), new Named("ifKnee", x -> x.ifKnee(4, 0)));
        BeamSetter x = Checks.setter(text);
        int made = (text.length() + 19) / 20 + 1;
        int[] first = new int[dear.size()];
        for (int k = 0; k < first.length; k++) {
            first[k] = answer(dear.get(k).ask, Checks.setter(text));
        }
        for (int call = made + 1; call <= MOST_CALLS; call++) {
            Named asked = dear.get(call % first.length);
            edges.due(asked.name + ", call " + call, first[call % first.length], answer(asked.ask, x));
        }
        // 2 calls, then 508 PUT ones, 2 that ask.
        BeamSetter y = Checks.setter(Scores.FLAT);
        for (int n = 0; n < MOST_CALLS - 4; n++) {
            edges.due("put, call " + (n + 3), n == 0 ? 0 : (n - 1) % 25 - 12, y.put(0, n % 25 - 12));
        }
        edges.due("call 511", 20, y.count(9));
        edges.due("call 512", (MOST_CALLS - 5) % 25 - 12, y.position(0));
        BeamSetter z = new BeamSetter();
        for (int call = 1; call <= MOST_CALLS; call++) {
            edges.due("feed, call " + call, call <= 45 ? 20 * call : NONE, z.feed(0, 0, 0, 0, 0));
        }
    }

    // ---- as many ELEMENTS as can be

    private void full() {
        edges.terms(1, "64 at most together");
        BeamSetter x = Scores.beam(Scores.many(64, "32 0"));
        edges.dueAll("group", Scores.groups(x, 0), 0, 64, 0, 63 * 9, 3, 32 + 2 * (31 + 30 + 29 + 28 + 27 + 26 + 25 + 24), 0);
        edges.dueAll("best", Scores.bests(x, 0), -17, -17, 0, 0, 0, 0);
        edges.dueAll("the last one", new int[] {x.direction(63), x.ideal(63), x.put(63, 0), x.undo(), x.wish(63)},
                -1, 17, 0, 0, 0);
        edges.dueAll("its stem", Scores.stems(x, 63), 17, 1, -17, 1);
        edges.dueAll("its BEAMS", Scores.beams(x, 63), 3, 0, 0, 0);
        edges.dueAll("touch, rank", new int[] {x.touch(0, 1, 2), x.rank(0, -17, -17), x.ranked(0, 0, 1)}, -3, 0, -17);
        edges.dueAll("what would be", new int[] {x.ifPut(63, 0, 0), x.ifShifted(0, 0), x.shift(), x.mirrored(0),
            x.ifKnee(24, 3), x.ifParts(1), x.ifParts(12)}, -17, 0, 0, 0, 0, 4, 1);
        edges.dueAll("STRETCHES", new int[] {x.stretches(0, 3), x.stretch(0, 3, 0, 1), x.stretch(0, 1, 1, 0)}, 1, 63, -2);
        edges.dueAll("CUT", new int[] {x.ifCut(0, 1), x.ifCut(0, 63), x.ifCut(0, 64), x.cut(0)}, 0, 0, NONE, 1);
        edges.dueAll("others", new int[] {x.level(0, 0), x.smooth(0, 0), x.smoothed(0, 0, 1), x.extreme(0, 0),
            x.extreme(0, 1), x.alone(0), x.total(2), x.count(4)}, -17, 0, -17, 0, 0, 0, 0, 1);
        edges.due("UP, all of them", 64, Scores.beam(Scores.many(64, "16 -1")).group(0, 6));
        edges.due("STUBS of the last", 2, Checks.setter("metre 12 2;split 12;" + Checks.repeated("rest 32;", 62)
                + "note 8 0;note 32 0;").beams(63, 2));
        // Alone from 0 to 63.
        BeamSetter y = Checks.setter("metre 1 8;" + Checks.repeated("note 8 1;", 64));
        edges.dueAll("of no GROUP", new int[] {y.alone(0), y.single(63, 1), y.direction(63), y.beams(63, 0), y.shift()},
                64, 14, 0, -2, NOTHING);
    }

    // ---- one TEXT behind another

    private void anew() {
        edges.promise(3, "all anew");
        // Four GROUPS that cost something, then none, one, two: nothing of what was found ahead is left.
        String four = "note 8 2;note 8 2;note 8 6;note 8 6;note 8 -6;note 8 -6;note 8 8;note 8 1;";
        BeamSetter x = Checks.setter(four);
        edges.due("smooth(0, 0) of four", 1, x.smooth(0, 0) == -2 || x.smooth(0, 0) > 0 ? 1 : 0);
        edges.due("smooth(120, 0) of four", x.total(0), x.smooth(120, 0));
        Checks.say(x, "note 8 2;");
        edges.dueAll("of none", new int[] {x.smooth(0, 0), x.smooth(120, 0), x.smooth(0, 1), x.total(0), x.total(2)},
                0, 0, 0, 0, -2);
        Checks.say(x, four);
        x.smooth(120, 0);
        Checks.say(x, Scores.RISE);
        edges.dueAll("of one", new int[] {x.smooth(0, 0), x.smoothed(0, 0, 0), x.smoothed(0, 0, 3)}, 16, -4, 0);
        Checks.say(x, four);
        x.smooth(120, 0);
        Checks.say(x, "note 8 2;note 8 2;note 8 6;note 8 6;");
        edges.dueAll("of two", new int[] {x.smooth(0, 0), x.smooth(7, 0), x.total(0), x.total(2)}, 16, 2, 2, 1);
        // A GROUP of three BEAMS, eight NOTES, then one of one BEAM, two.
        BeamSetter y = Checks.setter("note 32 -1;".repeat(8) + Scores.FLAT);
        edges.due("most BEAMS", 3, y.group(0, 4));
        edges.due("most BEAMS of the next", 1, y.group(1, 4));
        edges.due("UP", 8, y.group(0, 6));
        edges.due("UP of the next", 0, y.group(1, 6));
        Checks.say(y, Scores.FLAT);
        edges.dueAll("GROUP 0", Scores.groups(y, 0), 0, 2, 0, 16, 1, 523, 0);
    }

    // ---- Terms, part 3

    private void asking() {
        edges.terms(3, "What is asked changes nothing.");
        String before = state(mixed());
        int undoable = mixed().count(9);
        edges.due("what can be undone", 3, undoable);
        for (Named asked : asks()) {
            BeamSetter x = mixed();
            int first = answer(asked.ask, x);
            edges.due(asked.name + " changes nothing", 1, state(x).equals(before) ? 1 : 0);
            edges.due(asked.name + " once more", first, answer(asked.ask, x));
            edges.due("undo behind " + asked.name, 2, x.undo());
            edges.due("where it was behind " + asked.name, 3, x.position(9));
            edges.due("text behind " + asked.name, 1, x.text(20));
        }
        // All of them, one behind the other and back: each answers as on an object of its own.
        BeamSetter all = mixed();
        List<Named> asks = asks();
        for (int n = 0; n < 2 * asks.size(); n++) {
            Named asked = asks.get(n < asks.size() ? n : 2 * asks.size() - 1 - n);
            edges.due(asked.name + " among all", answer(asked.ask, mixed()), answer(asked.ask, all));
        }
    }

    private void order() {
        edges.terms(3, "Of several answers that hold NONE (NOTHING) goes first, then -2, then -3;");
        BeamSetter never = Checks.setter(Scores.NEVER);
        edges.due("ugliness: not ALLOWED, no what", NONE, never.ugliness(0, 0, 0, 4));
        edges.due("ugliness: not ALLOWED, no SETTING", NONE, never.ugliness(0, 61, 61, 0));
        edges.due("rank: not ALLOWED, no SETTING", NONE, never.rank(0, 0, 9));
        edges.due("touch: none is ALLOWED, no such BEAM", NONE, never.touch(0, 0, 1));
        edges.due("touch: none is ALLOWED, no such end", NONE, never.touch(0, 2, 0));
        edges.due("touch: none is ALLOWED, so it isn't at -9 .. 9", -2, never.touch(0, 0, 0));
        edges.due("touch: it isn't at -9 .. 9, no such BEAM", NONE, Checks.setter(Scores.FLAT).touch(0, 0, 1));
        edges.due("extreme: none is ALLOWED, no what", NONE, never.extreme(0, 2));
        edges.due("ifCut: none is ALLOWED, no k", NONE, never.ifCut(0, 4));
        edges.due("smooth: it can't be, no what", NONE, never.smooth(0, 2));
        edges.due("smooth: it can't be, no n", NONE, never.smooth(121, 0));
        edges.due("ifKnee: all aside, no n", NONE, never.ifKnee(25, 2));
        edges.due("ifShifted: all aside, no t", NONE, never.ifShifted(13, 2));
        edges.due("beams: of no GROUP, no what", NONE, Checks.setter("note 8 0;").beams(0, 4));
        edges.due("stretch: not so many, no what", NONE, Checks.setter(Scores.FLAT).stretch(0, 1, 1, 3));
        edges.due("stretch: not so many, no k", NONE, Checks.setter(Scores.FLAT).stretch(0, 4, 1, 0));

        edges.terms(3, "IndexOutOfBoundsException ahead of NoSuchElementException.");
        BeamSetter x = Checks.setter(Scores.FLAT);
        edges.noIndex("element(2, 8)", () -> x.element(2, 8));
        edges.noIndex("element(-1, -1)", () -> x.element(-1, -1));
        edges.noIndex("group(1, 7)", () -> x.group(1, 7));
        edges.noIndex("group(-1, -1)", () -> x.group(-1, -1));
        edges.noElement("element(1, 8)", () -> x.element(1, 8));
        edges.noElement("group(0, 7)", () -> x.group(0, 7));
    }

    private static BeamSetter put(int times) {
        BeamSetter x = Checks.setter("note 8 -12;note 8 0;");
        for (int n = 1; n <= times; n++) {
            x.put(0, n - 12);
        }
        return x;
    }

    private void undoing() {
        edges.terms(3, "Notes PUT elsewhere can be undone, the latest first, 20 at most (the eldest are forgotten);");
        for (int times = 0; times <= 24; times++) {
            BeamSetter x = put(times);
            int kept = Math.min(20, times);
            edges.due("what can be undone of " + times, kept, x.count(9));
            for (int n = 1; n <= kept; n++) {
                edges.due("undo " + n + " of " + times, kept - n, x.undo());
                edges.due("position, undo " + n + " of " + times, times - n - 12, x.position(0));
            }
            edges.due("undo beyond, of " + times, NONE, x.undo());
            edges.due("position, of " + times, times - kept - 12, x.position(0));
        }
        // What is undone makes room, and what is PUT then is the latest.
        BeamSetter y = put(21);
        y.undo();
        y.undo();
        edges.due("19 less 1", 18, y.count(9));
        edges.due("put", 7, y.put(0, -3));
        edges.due("put of another note", 0, y.put(1, 5));
        edges.due("full once more", 20, y.count(9));
        edges.due("put of another note", 5, y.put(1, 6));
        edges.due("full", 20, y.count(9));
        edges.due("undo", 19, y.undo());
        edges.due("position(1)", 5, y.position(1));
        edges.due("undo", 18, y.undo());
        edges.due("position(1)", 0, y.position(1));
        edges.due("undo", 17, y.undo());
        edges.due("position(0)", 7, y.position(0));
        // 21 notes, each PUT once: the first of them stays where it is PUT.
        BeamSetter z = Checks.setter("note 8 0;".repeat(21));
        for (int i = 0; i < 21; i++) {
            z.put(i, 3);
        }
        for (int i = 20; i >= 1; i--) {
            edges.due("undo of " + i, i - 1, z.undo());
            edges.due("position(" + i + ")", 0, z.position(i));
        }
        edges.due("undo of 0", NONE, z.undo());
        edges.due("position(0)", 3, z.position(0));

        edges.terms(3, "GROUPS stay as they are by that.");
        BeamSetter x = Checks.setter(MIXED);
        int[] groups = {0, 0, 1, 1, -2, -2, -2, 2, 2, 2, 2};
        for (int i = 0; i < groups.length; i++) {
            x.put(i, i % 2 == 0 ? 12 : -12);
        }
        edges.due("GROUPS", 3, x.count(3));
        for (int i = 0; i < groups.length; i++) {
            edges.due("GROUP of " + i, groups[i], x.element(i, 6));
        }
        edges.dueAll("NOTES", new int[] {x.group(0, 1), x.group(1, 1), x.group(2, 1)}, 2, 2, 4);
        edges.dueAll("what depends on POSITIONS doesn't", new int[] {x.group(0, 2), x.group(1, 2), x.want(1)}, 1, 1, -5);
    }

    private void constants() {
        edges.terms(3, "The constants: `NOTHING = -1000000`: A number that can't be one of these.");
        edges.due("NOTHING", -1000000, NOTHING);
        edges.due("NONE", -1, NONE);
        // What is -1 and what isn't there are unlike.
        BeamSetter x = Checks.setter("note 8 -1;note 8 -1;");
        edges.due("position(0)", -1, x.position(0));
        edges.due("position(2)", -1000000, x.position(2));
        edges.due("put(0, -2)", -1, x.put(0, -2));
        edges.due("put(0, 13)", -1000000, x.put(0, 13));
        edges.due("want(0)", 1, x.want(0));
        edges.due("level of RISE", -1, Checks.setter(Scores.RISE).level(0, 0));
        edges.due("level of NEVER", -1000000, Checks.setter(Scores.NEVER).level(0, 0));
    }

    void check() {
        calls();
        full();
        anew();
        asking();
        order();
        undoing();
        constants();
    }
}
