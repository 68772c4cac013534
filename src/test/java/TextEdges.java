/** Part 1 of the terms, promises 1 to 5 and 38: the TAPE, the TEXT, its FAULTS, ELEMENTS and what is counted. */
final class TextEdges {
    private static final int NONE = BeamSetter.NONE;
    private static final int BLANKS = 0x20202020;
    private static final String REST = "rest 4;";
    private static final String FULL = Checks.repeated("rest 32;", 32) + Checks.repeated("note 32 1;", 32);
    /** As many LINES as there can be: all that stand ahead, once each, and 64 ELEMENTS. */
    private static final String LONGEST = "metre 12 8;split 2 2 2 2 2 2;knee 10;wide 4 10;wide 8 10;wide 16 10;"
            + "wide 32 10;" + Checks.repeated("rest 32;", 64);

    private final Edges edges;

    TextEdges(Edges edges) {
        this.edges = edges;
    }

    private static int[] counts(BeamSetter x) {
        int[] all = new int[15];
        for (int what = 0; what < all.length; what++) {
            all[what] = x.count(what);
        }
        return all;
    }

    private static int feedBlanks(BeamSetter x) {
        return x.feed(BLANKS, BLANKS, BLANKS, BLANKS, BLANKS);
    }

    // ---- Terms, part 1: the LINES

    private void lines() {
        edges.terms(1, "A TEXT: { LINE ';' }.");
        edges.right(0, "");
        edges.right(0, " ");
        edges.right(0, " \n \n ");
        edges.right(1, REST);
        edges.right(2, "\n rest 4 ;\n\n rest 4 ; ");
        edges.fault(1, 0, ";");
        edges.fault(1, 2, "  ;");
        edges.fault(1, 7, "rest 4;;");
        edges.fault(1, 6, "rest 4");
        edges.fault(1, 7, "rest 4 rest 4;");
        edges.due("most LINES", 71, edges.right(71, LONGEST).count(0));

        edges.terms(1, "LINE: metre N N | split N { N } | knee N | wide N N | note N Z | rest N.");
        String[] right = {"metre 4 4", "split 4", "split 2 2", "knee 9", "wide 8 9", "note 8 1", "rest 8"};
        for (String line : right) {
            edges.right(1, line + ";");
        }
        String[] tooFew = {"metre", "metre 4", "split", "knee", "wide", "wide 8", "note", "note 8", "note 8 -", "rest"};
        for (String line : tooFew) {
            edges.fault(1, line.length(), line + ";");
        }
        String[] tooMany = {"metre 4 4 ", "knee 9 ", "wide 8 9 ", "note 8 1 ", "rest 8 "};
        for (String line : tooMany) {
            edges.fault(1, line.length(), line + "4;");
        }
    }

    private void numbers() {
        edges.terms(1, "N: digits;");
        String[] ahead = {"metre ", "metre 4 ", "split ", "split 2 ", "knee ", "wide ", "wide 8 ", "note ", "rest "};
        for (String line : ahead) {
            edges.fault(1, line.length(), line + "-4;");
            edges.fault(1, line.length(), line + "x;");
        }
        edges.right(2, "metre 00012 000008;rest 00000000000000000008;");
        edges.fault(1, 6, "rest 8.0;");
        // 4 and 8 beyond 2 to the power of 32, of 64: they would wrap round to what can be.
        edges.fault(2, 6, "metre 4294967300 4;");
        edges.fault(2, 8, "metre 4 4294967300;");
        edges.fault(2, 6, "metre 18446744073709551620 4;");
        edges.fault(2, 6, "split 4294967300;");
        edges.fault(2, 5, "knee 4294967305;");
        edges.fault(2, 5, "wide 4294967304 9;");
        edges.fault(2, 7, "wide 8 4294967305;");
        edges.fault(2, 5, "rest 4294967304;");
        edges.fault(2, 5, "rest " + "9".repeat(200) + ";");

        edges.terms(1, "Z: digits, perhaps '-' ahead (blanks may be between).");
        String[] below = {"note 8 -12;", "note 8 - 12;", "note 8 -\n 12;", "note 8-12;", "note 8 -0012;"};
        for (String text : below) {
            edges.due("position of " + text, -12, edges.right(1, text).position(0));
        }
        edges.due("position of -0", 0, edges.right(1, "note 8 -0;").position(0));
        edges.due("position of 00", 0, edges.right(1, "note 8 00;").position(0));
        edges.due("position of 012", 12, edges.right(1, "note 8 012;").position(0));
        edges.fault(1, 8, "note 8 --1;");
        edges.fault(1, 8, "note 8 -;");
        edges.fault(1, 9, "note 8 - ;");
        edges.fault(1, 9, "note 8 - -1;");
        edges.fault(1, 8, "note 8 1-;");
        edges.fault(1, 7, "note 8 +1;");
        edges.fault(2, 7, "note 8 4294967297;");
        edges.fault(2, 7, "note 8 -4294967297;");
        edges.fault(2, 7, "note 8 2147483648;");
    }

    private void signs() {
        edges.terms(1, "Blanks 10, 32.");
        for (int sign = 0; sign < 256; sign++) {
            char c = (char) sign;
            boolean digit = c >= '0' && c <= '9';
            if (sign == 10 || sign == 32) {
                edges.right(1, c + REST);
                edges.right(1, "rest" + c + "4;");
                edges.right(1, "rest 4" + c + ";");
                edges.right(1, REST + c);
                edges.right(1, "note 8 -" + c + "3" + c + ";");
            } else {
                edges.fault(1, 0, c + REST);
                edges.fault(1, 7, REST + c);
                // A digit makes another number, a ';' stands there rightly.
                edges.fault(digit ? 2 : 1, digit ? 5 : c == ';' ? 7 : 6, "rest 4" + c + ";");
            }
        }

        edges.terms(1, "Words: small letters, as far as they go; those of LINES are the only ones.");
        String[] others = {"Rest 4;", "REST 4;", "rests 4;", "res 4;", "re st 4;", "restrest 4;", "rfst 4;", "a;", "z 4;",
            "metr 4 4;", "metres 4 4;", "meter 4 4;", "spli 4;", "splits 4;", "splat 4;", "kne 9;", "knees 9;", "knef 9;",
            "wid 8 9;", "wider 8 9;", "wade 8 9;", "not 8 1;", "notes 8 1;", "nota 8 1;"};
        for (String text : others) {
            edges.fault(1, 0, text);
        }
        String[] words = {"metre", "split", "knee", "wide", "note", "rest"};
        String[] numbers = {" 4 4;", " 4;", " 9;", " 8 9;", " 8 1;", " 8;"};
        for (int w = 0; w < words.length; w++) {
            edges.right(1, words[w] + numbers[w]);
            for (int at = 0; at < words[w].length(); at++) {
                edges.fault(1, 0, words[w].substring(0, at) + 'x' + words[w].substring(at + 1) + numbers[w]);
                edges.fault(1, 0, words[w].substring(0, at) + words[w].substring(at + 1) + numbers[w]);
            }
            edges.fault(1, 0, words[w] + 'a' + numbers[w]);
            edges.fault(1, 0, words[w] + 'z' + numbers[w]);
            edges.fault(1, 0, 'a' + words[w] + numbers[w]);
            edges.fault(1, 0, 'z' + words[w] + numbers[w]);
        }
        edges.right(2, "note8 1;rest4;");
        edges.fault(1, 4, "restA4;");
        // The signs next to a and z, to 0 and 9.
        edges.fault(1, 4, "rest`4;");
        edges.fault(1, 4, "rest{4;");
        edges.fault(1, 6, "rest 4/;");
        edges.fault(1, 6, "rest 4:;");
        edges.fault(1, 6, "rest 4x;");
        edges.fault(1, 5, "note rest 4;");
        edges.fault(1, 6, "metre split 4;");
    }

    private void metres() {
        edges.terms(1, "metre, once: how many BEATS 1 .. 12, of which kind U: 2, 4, 8 (4 of kind 4 at first).");
        edges.fault(2, 6, "metre 0 4;");
        edges.fault(2, 6, "metre 13 4;");
        for (int beats = 1; beats <= 12; beats++) {
            edges.due("BEATS", beats, edges.right(1, "metre " + beats + " 4;").count(5));
        }
        for (int unit = 0; unit <= 33; unit++) {
            String text = "metre 3 " + unit + ";";
            if (unit == 2 || unit == 4 || unit == 8) {
                edges.due("U", unit, edges.right(1, text).count(6));
            } else {
                edges.fault(2, 8, text);
            }
        }
        edges.due("BEATS at first", 4, edges.right(1, REST).count(5));
        edges.due("U at first", 4, edges.right(1, REST).count(6));
        edges.fault(3, 10, "metre 4 4;metre 4 4;");
        edges.fault(3, 10, "metre 4 4;metre 3 8;");
    }

    private void splits() {
        edges.terms(1, "split, once: lengths of PARTS in BEATS, 1 .. 12 each, 6 at most, together as many as there are "
                + "BEATS (without: of U 8, if 3 divides the BEATS, threes; else ones).");
        edges.due("PARTS", 4, edges.right(1, "split 1 1 1 1;").count(8));
        edges.due("PARTS", 2, edges.right(1, "split 1 3;").count(8));
        edges.due("PARTS", 1, edges.right(1, "split 4;").count(8));
        edges.due("PARTS", 1, edges.right(2, "metre 12 4;split 12;").count(8));
        edges.due("PARTS", 6, edges.right(2, "metre 6 4;split 1 1 1 1 1 1;").count(8));
        edges.due("PARTS", 6, edges.right(2, "metre 12 8;split 2 2 2 2 2 2;").count(8));
        edges.due("PARTS", 1, edges.right(2, "metre 1 8;split 1;").count(8));
        edges.fault(2, 6, "split 0;");
        edges.fault(2, 8, "split 4 0;");
        edges.fault(2, 8, "split 1 0;");
        edges.fault(2, 17, "metre 12 4;split 13;");
        edges.fault(2, 28, "metre 7 4;split 1 1 1 1 1 1 1;");
        edges.fault(5, 7, "split 3;");
        edges.fault(2, 6, "split 5;");
        edges.fault(3, 8, "split 4;split 4;");
        for (int beats = 1; beats <= 12; beats++) {
            int parts = beats % 3 == 0 ? beats / 3 : beats;
            edges.due("PARTS of " + beats + " 8", parts, Checks.setter("metre " + beats + " 8;").count(8));
            edges.due("PARTS of " + beats + " 4", beats, Checks.setter("metre " + beats + " 4;").count(8));
            edges.due("PARTS of " + beats + " 2", beats, Checks.setter("metre " + beats + " 2;").count(8));
        }
        BeamSetter threes = Checks.setter("metre 9 8;" + Checks.repeated("rest 8;", 10));
        int[] due = {0, 0, 0, 1, 1, 1, 2, 2, 2, 0};
        BeamSetter others = Checks.setter("metre 9 8;split 1 2 6;" + Checks.repeated("rest 8;", 10));
        int[] dueOfOthers = {0, 1, 1, 2, 2, 2, 2, 2, 2, 0};
        for (int i = 0; i < 10; i++) {
            edges.due("PART of " + i, due[i], threes.element(i, 4));
            edges.due("PART of " + i, dueOfOthers[i], others.element(i, 4));
        }
    }

    private void kneeAndWide() {
        edges.terms(1, "knee, once: 4 .. 24 (9).");
        edges.fault(2, 5, "knee 0;");
        edges.fault(2, 5, "knee 3;");
        edges.due("KNEE", 4, edges.right(1, "knee 4;").count(7));
        edges.due("KNEE", 24, edges.right(1, "knee 24;").count(7));
        edges.fault(2, 5, "knee 25;");
        edges.fault(3, 7, "knee 4;knee 4;");
        edges.due("KNEE without", 9, edges.right(1, REST).count(7));

        edges.terms(1, "wide, of each kind 4, 8, 16, 32 once: how wide such a one is, 4 .. 40 (24, 16, 12, 9).");
        for (int at = 0; at < 4; at++) {
            int kind = 4 << at;
            String line = "wide " + kind + " ";
            edges.fault(2, line.length(), line + "3;");
            edges.due(line + "4", 4, edges.right(1, line + "4;").count(11 + at));
            edges.due(line + "40", 40, edges.right(1, line + "40;").count(11 + at));
            edges.fault(2, line.length(), line + "41;");
            // The second kind stands behind "wide 8 9;wide ".
            edges.fault(3, line.length() + 2 + "wide ".length(), line + "9;" + line + "9;");
        }
        edges.fault(2, 5, "wide 0 9;");
        edges.fault(2, 5, "wide 2 9;");
        edges.fault(2, 5, "wide 12 9;");
        edges.fault(2, 5, "wide 64 9;");
        BeamSetter x = edges.right(4, "wide 32 7;wide 16 6;wide 8 5;wide 4 4;");
        edges.dueAll("wide", widths(x), 4, 5, 6, 7);
        edges.dueAll("without", widths(edges.right(1, REST)), 24, 16, 12, 9);
    }

    private static int[] widths(BeamSetter x) {
        return new int[] {x.count(11), x.count(12), x.count(13), x.count(14)};
    }

    private void order() {
        edges.terms(1, "All of these stand ahead of notes and rests, metre ahead of split.");
        String[] ahead = {"metre 4 4;", "split 4;", "knee 9;", "wide 8 9;"};
        for (String line : ahead) {
            edges.right(2, line + REST);
            edges.fault(1, 7, REST + line);
            edges.fault(1, 9, "note 4 1;" + line);
            edges.fault(1, 7 + line.length(), line + REST + line);
        }
        edges.fault(1, 8, "split 4;metre 4 4;");
        edges.fault(1, 15, "split 4;knee 9;metre 4 4;");
        edges.right(2, "metre 4 4;split 4;");
        edges.right(4, "wide 8 9;split 4;knee 9;wide 4 9;");
        edges.right(5, "knee 9;wide 8 9;metre 6 8;wide 4 9;split 6;");
        // The split is of the metre that was told, whatever stands between.
        edges.fault(5, 25, "metre 6 8;knee 9; split 4;");
    }

    // ---- Terms, part 1: the ELEMENTS

    private void elementsOfText() {
        edges.terms(1, "note: of a kind 4, 8, 16, 32, at a POSITION -12 .. 12; rest: of a kind; 64 at most together: "
                + "ELEMENTS, numbered from 0 on.");
        for (int kind = 0; kind <= 65; kind++) {
            if (kind == 4 || kind == 8 || kind == 16 || kind == 32) {
                edges.due("kind", kind, edges.right(1, "note " + kind + " 1;").element(0, 0));
                edges.due("kind", kind, edges.right(1, "rest " + kind + ";").element(0, 0));
            } else {
                edges.fault(2, 5, "note " + kind + " 1;");
                edges.fault(2, 5, "rest " + kind + ";");
            }
        }
        edges.fault(2, 7, "note 8 -13;");
        edges.fault(2, 7, "note 8 13;");
        for (int p = -12; p <= 12; p++) {
            edges.due("POSITION", p, edges.right(1, "note 8 " + p + ";").position(0));
        }
        BeamSetter x = edges.right(64, FULL);
        edges.due("ELEMENTS", 64, x.count(1));
        edges.due("notes", 32, x.count(2));
        edges.due("number 0 is a rest", 0, x.element(0, 1));
        edges.due("number 31 is a rest", 0, x.element(31, 1));
        edges.due("number 32 is a note", 1, x.element(32, 1));
        edges.due("number 63 is a note", 1, x.element(63, 1));
        edges.noIndex("number 64", () -> x.element(64, 1));
        edges.fault(4, FULL.length(), FULL + "rest 32;");
        edges.fault(4, FULL.length(), FULL + "note 32 1;");
    }

    private void times() {
        edges.terms(1, "LONG, in 32nds: of kind 4: 8, 8: 4, 16: 2, 32: 1; a MEASURE: BEATS times 32 by U.");
        int[] due = {8, 4, 2, 1};
        for (int at = 0; at < 4; at++) {
            int kind = 4 << at;
            edges.due("LONG of " + kind, due[at], Checks.setter("rest " + kind + ";rest 32;").element(1, 2));
            // A MEASURE of 8: as many as fit, and one that begins the next.
            BeamSetter x = Checks.setter("metre 1 4;" + Checks.repeated("rest " + kind + ";", 8 / due[at] + 1));
            edges.due("MEASURES of " + kind, 2, x.count(4));
            edges.due("TIME of the last", 0, x.element(8 / due[at], 2));
            edges.due("MEASURE of the one ahead", 0, x.element(8 / due[at] - 1, 3));
        }
        edges.due("a MEASURE of 4", 1, edges.right(2, "metre 1 8;rest 8;").count(4));
        edges.due("full", 2, edges.right(3, "metre 1 8;rest 8;rest 8;").count(4));
        edges.due("a MEASURE of 16", 1, edges.right(3, "metre 1 2;rest 4;rest 4;").count(4));
        edges.due("full", 2, edges.right(4, "metre 1 2;rest 4;rest 4;rest 4;").count(4));
        edges.due("a MEASURE of 192", 1, edges.right(25, "metre 12 2;" + Checks.repeated(REST, 24)).count(4));
        edges.due("full", 2, edges.right(26, "metre 12 2;" + Checks.repeated(REST, 25)).count(4));

        edges.terms(1, "ELEMENTS stand one behind the other, from 0 on: TIME of one: all ahead of it together.");
        BeamSetter x = Checks.setter("metre 2 4;note 8 1;rest 8;note 16 1;note 32 1;rest 32;rest 8;note 4 2;rest 32;");
        int[] times = {0, 4, 8, 10, 11, 12, 0, 8};
        for (int i = 0; i < times.length; i++) {
            edges.due("TIME of " + i, times[i], x.element(i, 2));
            edges.due("MEASURE of " + i, i < 6 ? 0 : 1, x.element(i, 3));
        }

        edges.terms(1, "X: how wide all ahead of it are together.");
        // Rests have their width, and it goes on through the MEASURES.
        int[] xs = {0, 16, 32, 44, 53, 62, 78, 102};
        for (int i = 0; i < xs.length; i++) {
            edges.due("X of " + i, xs[i], x.element(i, 5));
        }
        edges.due("widest X", 63 * 40, Checks.setter("wide 4 40;" + Checks.repeated(REST, 64)).element(63, 5));
    }

    // ---- Terms, part 1: the FAULTS

    private void firstFault() {
        edges.terms(1, "FAULTS, the first along the text; of one place the least; with its place:");
        edges.fault(2, 7, "note 8 13 x");
        edges.fault(1, 5, "note x 13;rest 5;");
        edges.fault(5, 15, "metre 1 8;note 4 13;");
        edges.fault(5, 15, "metre 1 8;note 4 x");
        edges.fault(3, 15, "wide 8 9; wide 8 99;");
        edges.fault(3, 8, "knee 9; knee 99;");
        edges.fault(2, 6, "split 9 9 9;");
        // Of one place: 1 and 3, 1 and 4, 1 and 5.
        edges.fault(1, 14, "knee 9;rest 4;knee 9;");
        edges.fault(1, 18, "metre 4 4;split 4;metre 4 4;");
        edges.fault(1, FULL.length(), FULL + "knee 9;");
        edges.fault(1, FULL.length(), FULL + "x;");
        edges.fault(1, 6, "split ;");
        edges.fault(1, 10, "split 1 1 ");
        edges.fault(4, FULL.length(), FULL + "rest 5;");
        // A kind that is none has no LONG by which it could go beyond its MEASURE.
        edges.fault(2, 15, "metre 1 8;rest 2;");

        edges.terms(1, "1 a TOKEN that is none, or can't stand there (a word that is none of a LINE's; a LINE too late; "
                + "the length, if more must come).");
        edges.fault(1, 2, "  #rest 4;");
        edges.fault(1, 0, "4;");
        edges.fault(1, 0, "-4;");
        edges.fault(1, 8, "rest 4; rust 4;");
        edges.fault(1, 8, "rest 4; knee 9;");
        edges.fault(1, 7, "rest 4 , ;");
        edges.fault(1, 5, "knee note 8 1;");
        edges.fault(1, 7, "rest 4 -;");
        String[] open = {"metre", "metre ", "metre 4", "metre 4 4", "metre 4 4\n", "split", "split 4", "split 1 1 ",
            "knee", "knee 9", "wide", "wide 8", "wide 8 9", "note", "note 8", "note 8 -", "note 8 - ", "note 8 1",
            "note 8 -1  ", "rest", "rest 4", "rest 4 \n"};
        for (String text : open) {
            edges.fault(1, text.length(), text);
        }
        // What stands on the TAPE behind the TEXT isn't of it.
        BeamSetter x = new BeamSetter();
        x.feed(0x72657374, 0x20343b72, 0x65737420, 0x343b2020, BLANKS);
        edges.due("\"rest 4;rest 4\"", NONE, x.text(13));
        edges.due("fault(0)", 1, x.fault(0));
        edges.due("fault(1)", 13, x.fault(1));
    }

    private void secondFault() {
        edges.terms(1, "2 a number that can't be (at it; Z at its '-'): beyond what is said, none of the kinds; a number "
                + "of split by which PARTS together are more than BEATS, a seventh one.");
        edges.fault(2, 7, "metre  13 4;");
        edges.fault(2, 10, "metre 4   5;");
        edges.fault(2, 7, "note 8 -13;");
        edges.fault(2, 7, "note 8 -\n 13;");
        edges.fault(2, 8, "note 8  13;");
        edges.fault(2, 7, "note 8 -13");
        edges.fault(2, 6, "note  5 1;");
        edges.fault(2, 6, "rest  64;");
        edges.fault(2, 6, "split 5;");
        edges.fault(2, 8, "split 4 1;");
        edges.fault(2, 8, "split 2 3;");
        edges.fault(2, 12, "split 1 1 1 2;");
        edges.fault(2, 14, "split 1 1 1 1 1;");
        edges.fault(2, 28, "metre 6 4;split 1 1 1 1 1 1 1;");
        edges.fault(2, 28, "metre 9 4;split 1 1 1 1 1 1 3;");
        edges.fault(2, 28, "metre 9 4;split 1 1 1 1 1 1 0;");
        edges.fault(2, 28, "metre 9 4;split 1 1 1 1 1 1 3");
    }

    private void otherFaults() {
        edges.terms(1, "3 told already: metre, split, knee (at the word), wide of that kind (at the kind).");
        edges.fault(3, 10, "metre 4 4;metre 4 4;");
        edges.fault(3, 18, "metre 4 4;knee 9; metre x");
        edges.fault(3, 8, "split 4;split x;");
        edges.fault(3, 7, "knee 5;knee 5;");
        edges.fault(3, 7, "knee 5;knee;");
        for (String kind : new String[] {"4", "8", "16", "32"}) {
            String line = "wide " + kind + " 9;";
            edges.fault(3, line.length() + 6, line + "wide  " + kind + " 9;");
            edges.fault(3, line.length() + 5, line + "wide " + kind + " 3;");
            edges.fault(3, line.length() + 5, line + "wide 0" + kind + ";");
        }
        // Told by a TEXT ahead is not told already.
        BeamSetter x = Checks.setter("metre 4 4;split 4;knee 9;wide 8 9;");
        edges.due("told once more", 4, Checks.say(x, "metre 4 4;split 4;knee 9;wide 8 9;"));
        Checks.say(x, "knee 9;wide 16 9;knee 9;");
        edges.due("told once more, behind a FAULT", 2, Checks.say(x, "knee 9;wide 16 9;"));

        edges.terms(1, "4 a 65th ELEMENT (at the word).");
        edges.right(64, FULL);
        edges.right(64, FULL + " ");
        edges.fault(4, FULL.length() + 1, FULL + " rest 32;");
        edges.fault(4, FULL.length(), FULL + "note");
        edges.fault(4, FULL.length(), FULL + "rest x;");
        BeamSetter y = Checks.setter(FULL);
        edges.due("64 once more", 64, Checks.say(y, FULL));

        edges.terms(1, "5 an ELEMENT that doesn't end within its MEASURE (at its kind); split whose PARTS together are "
                + "fewer than BEATS (at its ';').");
        edges.right(3, "metre 1 4;note 8 0;note 8 0;");
        edges.right(3, "metre 1 8;rest 16;rest 16;");
        edges.right(9, Checks.repeated(REST, 9));
        edges.fault(5, 24, "metre 1 4;note 8 0;note 4 0;");
        edges.fault(5, 25, "metre 1 4;note 8 0;note  4 0;");
        edges.fault(5, 15, "metre 1 8;note 4 0;");
        edges.fault(5, 15, "metre 1 8;rest 4;");
        edges.fault(5, 24, "metre 1 8;rest 16;\nrest 8;");
        edges.fault(5, 32, "metre 1 8;rest 16;rest 32;\nrest 16;");
        // 32 less 1 is left of the MEASURE: it doesn't end within it.
        edges.fault(5, 34, "rest 32;rest 4;rest 4;rest 4;rest 4;");
        // Nor within the third one.
        edges.fault(5, 36, "metre 1 4;rest 4;rest 4;rest 8;rest 4;");
        edges.fault(5, 7, "split 3;");
        edges.fault(5, 10, "split 1 1 ;");
        edges.fault(5, 19, "metre 12 4;split 11;");
        edges.fault(5, 27, "metre 7 4;split 1 1 1 1 1 1;");
        edges.right(1, "split 1 1 2;");
    }

    // ---- promises 1 to 5

    private void tape() {
        edges.promise(1, "No ELEMENTS, 4 BEATS of kind 4, an empty TAPE.");
        BeamSetter x = new BeamSetter();
        edges.dueAll("count(0 .. 14)", counts(x), 0, 0, 0, 0, 0, 4, 4, 9, 4, 0, 0, 24, 16, 12, 9);
        edges.noIndex("element(0, 0)", () -> x.element(0, 0));
        edges.noIndex("group(0, 0)", () -> x.group(0, 0));
        edges.due("text(1)", -2, x.text(1));
        edges.due("text(0)", 0, x.text(0));

        edges.promise(2, "Twenty bytes come behind the TAPE, four of each number, the highest first: how many it has;");
        edges.due("first", 20, x.feed(0x6e6f7465, 0x2038202d, 0x31323b72, 0x65737420, 0x31363b6e));
        edges.due("second, behind it", 40, x.feed(0x6f746520, 0x34203131, 0x3b202020, 0x72657374, 0x2033323b));
        edges.due("\"note 8 -12;rest 16;note 4 11;   rest 32;\"", 4, x.text(40));
        edges.due("position(0)", -12, x.position(0));
        edges.due("kind of 1", 16, x.element(1, 0));
        edges.due("position(2)", 11, x.position(2));
        edges.due("kind of 3", 32, x.element(3, 0));
        // Numbers below 0 have a first byte of 128 and more, their others are 0 .. 255, too.
        x.feed(-1, 0, 0, 0, 0);
        x.text(20);
        edges.due("byte 255 is at", 0, x.fault(1));
        x.feed(0x200A20FF, 0, 0, 0, 0);
        x.text(20);
        edges.due("byte 255 is at", 3, x.fault(1));
        x.feed(BLANKS, BLANKS, BLANKS, BLANKS, Integer.MIN_VALUE);
        x.text(20);
        edges.due("byte 128 is at", 16, x.fault(1));
        // "x rest 4;" with a bit above each byte: bytes that would be right, were that bit lost.
        x.feed(0xF2E5F3F4, 0xA0B4BBA0, BLANKS, BLANKS, BLANKS);
        edges.due("bytes above 127", NONE, x.text(20));
        edges.due("byte 242 is at", 0, x.fault(1));

        edges.promise(2, "NONE, and none come, if it would have more than 900.");
        BeamSetter y = new BeamSetter();
        for (int n = 1; n < 45; n++) {
            edges.due("feed " + n, 20 * n, feedBlanks(y));
        }
        edges.due("feed 45: full", 900, y.feed(BLANKS, BLANKS, BLANKS, 0x20726573, 0x7420343b));
        edges.due("feed 46", NONE, y.feed(0, 0, 0, 0, 0));
        edges.due("feed 47", NONE, feedBlanks(y));
        edges.due("none came", 900, y.count(10));
        edges.due("the last bytes are as they were", 1, y.text(900));
        edges.due("kind", 4, y.element(0, 0));
        edges.due("empty, so some can come", 20, feedBlanks(y));
    }

    private void texts() {
        edges.promise(3, "The TAPE's first n bytes (it is empty then) are the TEXT (all anew, nothing to undo): how many "
                + "LINES;");
        BeamSetter x = Checks.setter("metre 3 8;split 1 2;knee 7;wide 16 11;note 8 0;note 8 2;rest 8;");
        x.put(0, 5);
        edges.due("what can be undone", 1, x.count(9));
        x.feed(0x72657374, 0x20343b72, 0x65737420, 0x343b7265, 0x73742034);
        edges.due("7 of 20 bytes", 1, x.text(7));
        edges.due("no byte is left", 0, x.count(10));
        edges.dueAll("all anew", counts(x), 1, 1, 0, 0, 1, 4, 4, 9, 4, 0, 0, 24, 16, 12, 9);
        edges.due("nothing to undo", NONE, x.undo());
        Checks.say(x, "note 8 0;");
        x.put(0, 5);
        feedBlanks(x);
        edges.due("0 of 20 bytes", 0, x.text(0));
        edges.dueAll("all anew", counts(x), 0, 0, 0, 0, 0, 4, 4, 9, 4, 0, 0, 24, 16, 12, 9);
        edges.due("nothing to undo", NONE, x.undo());
        feedBlanks(x);
        edges.due("all of 20 bytes", 0, x.text(20));
        edges.due("no byte is left", 0, x.count(10));
        edges.due("most LINES", 71, Checks.say(x, LONGEST));
        edges.due("the same once more", 71, Checks.say(x, LONGEST));
        edges.due("ELEMENTS", 64, x.count(1));

        edges.promise(3, "NONE with a FAULT, all else stays;");
        BeamSetter y = Checks.setter("metre 3 8;split 1 2;knee 7;wide 16 11;rest 8;note 8 0;note 8 2;");
        y.put(2, 5);
        // With each FAULT, and where much of a TEXT was right ahead of it.
        String[] wrong = {"metre 2 4;rest 8;x", "metre 2 4;knee 99;", "knee 9;knee 9;", FULL + "rest 32;", "split 3;",
            "metre 2 2;split 2;knee 20;wide 16 40;note 8 -9;note 8 -9;note 8 -9;rest 4"};
        for (String text : wrong) {
            edges.due("text() of " + text, NONE, Checks.say(y, text));
            edges.dueAll("all else", counts(y), 7, 3, 2, 1, 1, 3, 8, 7, 2, 1, 0, 24, 16, 11, 9);
            edges.due("position(1)", 0, y.position(1));
            edges.due("position(2), where it was PUT", 5, y.position(2));
            edges.due("PART of 1", 1, y.element(1, 4));
            edges.due("first of GROUP 0", 1, y.group(0, 0));
        }
        edges.due("what was PUT can be undone", 0, y.undo());
        edges.due("position(2)", 2, y.position(2));

        edges.promise(3, "-2, and the TAPE stays: there are not so many, n is below 0.");
        BeamSetter z = new BeamSetter();
        edges.due("text(1) of none", -2, z.text(1));
        z.feed(0x72657374, 0x20343b20, BLANKS, BLANKS, BLANKS);
        int[] refused = {21, 900, 901, -1, -20, Integer.MAX_VALUE, Integer.MIN_VALUE};
        for (int n : refused) {
            edges.due("text(" + n + ")", -2, z.text(n));
            edges.due("TAPE", 20, z.count(10));
            edges.due("ELEMENTS", 0, z.count(1));
            edges.due("FAULT", 0, z.fault(0));
        }
        edges.due("text(20)", 1, z.text(20));
        edges.due("text(20) of none", -2, z.text(20));
        edges.due("ELEMENTS", 1, z.count(1));
    }

    private void faultsTold() {
        edges.promise(4, "Of the latest text() that was not -2,");
        BeamSetter x = new BeamSetter();
        Checks.say(x, "rest 4; knee 9;");
        x.text(1);
        x.text(-1);
        edges.due("fault(0)", 1, x.fault(0));
        edges.due("fault(1)", 8, x.fault(1));
        Checks.say(x, "rest 5;");
        edges.due("fault(0)", 2, x.fault(0));
        edges.due("fault(1)", 5, x.fault(1));
        x.text(0);
        edges.due("fault(0)", 0, x.fault(0));
        edges.due("fault(1)", NONE, x.fault(1));

        edges.promise(4, "what 0: its FAULT (0 without, and ahead of any), 1: its place (NONE without).");
        BeamSetter y = new BeamSetter();
        edges.due("fault(0)", 0, y.fault(0));
        edges.due("fault(1)", NONE, y.fault(1));
        y.text(1);
        edges.due("fault(0), behind -2 alone", 0, y.fault(0));
        edges.due("fault(1), behind -2 alone", NONE, y.fault(1));
        Checks.say(y, REST);
        edges.due("fault(0)", 0, y.fault(0));
        edges.due("fault(1)", NONE, y.fault(1));
        Checks.say(y, "x");
        edges.due("fault(0)", 1, y.fault(0));
        edges.due("fault(1), the first place", 0, y.fault(1));
        Checks.say(y, " ".repeat(899) + "x");
        edges.due("fault(1), the last place", 899, y.fault(1));
        Checks.say(y, " ".repeat(896) + "rest");
        edges.due("fault(1), the length of a full TAPE", 900, y.fault(1));

        edges.promise(4, "NONE for another what.");
        int[] others = {-1, 2, 5, Integer.MAX_VALUE, Integer.MIN_VALUE};
        for (int what : others) {
            edges.due("fault(" + what + ")", NONE, y.fault(what));
            edges.due("fault(" + what + ")", NONE, new BeamSetter().fault(what));
        }
    }

    private static int[] elementOf(BeamSetter x, int i) {
        int[] all = new int[8];
        for (int what = 0; what < all.length; what++) {
            all[what] = x.element(i, what);
        }
        return all;
    }

    private void elementsTold() {
        BeamSetter x = Checks.setter("metre 3 4;split 2 1;wide 8 10;wide 4 20;note 8 3;note 16 -2;rest 16;note 4 0;"
                + "note 16 5;note 32 -12;note 32 7;note 8 0;rest 8;note 16 1;note 16 2;");
        edges.promise(5, "Of an ELEMENT, what 0 its kind, 1 whether it is a note (1, 0), 2 its TIME within its MEASURE, "
                + "3 its MEASURE (0 on), 4 its PART (0 on, of the MEASURE), 5 X, 6 its GROUP (-2: none), 7 BEAMS (of a "
                + "rest 0).");
        edges.dueAll("the first ELEMENT", elementOf(x, 0), 8, 1, 0, 0, 0, 0, 0, 1);
        edges.dueAll("16", elementOf(x, 1), 16, 1, 4, 0, 0, 10, 0, 2);
        edges.dueAll("a rest", elementOf(x, 2), 16, 0, 6, 0, 0, 22, -2, 0);
        edges.dueAll("a note without BEAMS", elementOf(x, 3), 4, 1, 8, 0, 0, 34, -2, 0);
        edges.dueAll("the first of a PART", elementOf(x, 4), 16, 1, 16, 0, 1, 54, 1, 2);
        edges.dueAll("32", elementOf(x, 5), 32, 1, 18, 0, 1, 66, 1, 3);
        edges.dueAll("the last of a MEASURE", elementOf(x, 7), 8, 1, 20, 0, 1, 84, 1, 1);
        edges.dueAll("the first of a MEASURE", elementOf(x, 8), 8, 0, 0, 1, 0, 94, -2, 0);
        edges.dueAll("the last ELEMENT", elementOf(x, 10), 16, 1, 6, 1, 0, 116, 2, 2);

        edges.promise(5, "IndexOutOfBoundsException: no such ELEMENT.");
        int[] none = {-1, 11, 64, Integer.MAX_VALUE, Integer.MIN_VALUE};
        for (int i : none) {
            edges.noIndex("element(" + i + ", 0)", () -> x.element(i, 0));
            edges.noIndex("element(" + i + ", 8), ahead of NoSuchElementException", () -> x.element(i, 8));
        }
        edges.noIndex("element(0, 0) of none", () -> new BeamSetter().element(0, 0));
        BeamSetter y = Checks.setter(FULL);
        Checks.say(y, REST);
        edges.noIndex("what a TEXT ahead had", () -> y.element(1, 0));

        edges.promise(5, "NoSuchElementException: no such what.");
        int[] others = {-1, 8, 9, Integer.MAX_VALUE, Integer.MIN_VALUE};
        for (int what : others) {
            edges.noElement("element(0, " + what + ")", () -> x.element(0, what));
            edges.noElement("element(10, " + what + ")", () -> x.element(10, what));
        }
    }

    // ---- promise 38

    private void counted() {
        edges.promise(38, "0 LINES, 1 ELEMENTS, 2 notes, 3 GROUPS, 4 MEASURES in which an ELEMENT begins, 5 BEATS, 6 U, "
                + "7 KNEE, 8 PARTS (of a MEASURE), 9 what can be undone, 10 bytes of the TAPE, 11 .. 14 how wide kinds "
                + "4, 8, 16, 32 are.");
        BeamSetter x = Checks.setter("knee 24;metre 5 8;split 3 2;wide 32 4;wide 4 40;wide 16 7;wide 8 8;"
                + Checks.repeated("note 8 1;", 5) + "rest 16;");
        edges.dueAll("count", counts(x), 13, 6, 5, 2, 2, 5, 8, 24, 2, 0, 0, 40, 8, 7, 4);
        x.put(0, 2);
        x.put(0, 3);
        feedBlanks(x);
        edges.dueAll("count", counts(x), 13, 6, 5, 2, 2, 5, 8, 24, 2, 2, 20, 40, 8, 7, 4);
        edges.due("MEASURES, without ELEMENTS", 0, new BeamSetter().count(4));
        edges.due("MEASURES, one is full", 1, Checks.setter(Checks.repeated(REST, 4)).count(4));
        edges.due("MEASURES, one more begins", 2, Checks.setter(Checks.repeated(REST, 4) + "rest 32;").count(4));
        edges.due("MEASURES, most of all", 64, Checks.setter("metre 1 8;" + Checks.repeated("rest 8;", 64)).count(4));
        edges.due("GROUPS, most of all", 32, Checks.setter("metre 1 4;" + Checks.repeated("note 8 1;", 64)).count(3));
        edges.due("PARTS, most of all", 12, Checks.setter("metre 12 4;").count(8));

        edges.promise(38, "NONE for another what.");
        int[] others = {-1, 15, 16, Integer.MAX_VALUE, Integer.MIN_VALUE};
        for (int what : others) {
            edges.due("count(" + what + ")", NONE, x.count(what));
        }
    }

    void check() {
        lines();
        numbers();
        signs();
        metres();
        splits();
        kneeAndWide();
        order();
        elementsOfText();
        times();
        firstFault();
        secondFault();
        otherFaults();
        tape();
        texts();
        faultsTold();
        elementsTold();
        counted();
    }
}
