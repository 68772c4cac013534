/** Promises 1 to 5 and 38: the TAPE, the TEXT, its FAULTS, ELEMENTS and what is counted. */
public final class TextTest {
    private static final Checks CHECKS = new Checks();

    private static int[] counts(BeamSetter x) {
        int[] all = new int[15];
        for (int what = 0; what < all.length; what++) {
            all[what] = x.count(what);
        }
        return all;
    }

    private static int[] elements(BeamSetter x, int i) {
        int[] all = new int[8];
        for (int what = 0; what < all.length; what++) {
            all[what] = x.element(i, what);
        }
        return all;
    }

    private static void fault(int number, int place, String text) {
        BeamSetter x = new BeamSetter();
        CHECKS.due("text() of " + text, BeamSetter.NONE, Checks.say(x, text));
        CHECKS.due("fault(0) of " + text, number, x.fault(0));
        CHECKS.due("fault(1) of " + text, place, x.fault(1));
    }

    private static void right(int lines, String text) {
        BeamSetter x = new BeamSetter();
        CHECKS.due("text() of " + text, lines, Checks.say(x, text));
        CHECKS.due("fault(0) of " + text, 0, x.fault(0));
        CHECKS.due("fault(1) of " + text, BeamSetter.NONE, x.fault(1));
    }

    /** Promise 1. */
    private static void newObject() {
        BeamSetter x = new BeamSetter();
        CHECKS.dueAll("new, count", counts(x), 0, 0, 0, 0, 0, 4, 4, 9, 4, 0, 0, 24, 16, 12, 9);
        CHECKS.due("new, text(0)", 0, x.text(0));
        CHECKS.dueAll("text(0), count", counts(x), 0, 0, 0, 0, 0, 4, 4, 9, 4, 0, 0, 24, 16, 12, 9);
    }

    /** Promise 2. */
    private static void feeding() {
        BeamSetter x = new BeamSetter();
        for (int n = 1; n <= 45; n++) {
            CHECKS.due("feed " + n, 20 * n, x.feed(538976288, 538976288, 538976288, 538976288, 538976288));
        }
        CHECKS.due("feed beyond 900", BeamSetter.NONE, x.feed(1, 2, 3, 4, 5));
        CHECKS.due("full tape", 900, x.count(10));
        CHECKS.due("text beyond", -2, x.text(901));
        CHECKS.due("all blank", 0, x.text(900));
        CHECKS.due("tape is empty then", 0, x.count(10));
        // Highest byte first, each number behind the one ahead: "note 4 5;rest 8;  8".
        CHECKS.due("feed", 20, x.feed(0x6e6f7465, 0x20342035, 0x3b726573, 0x7420383b, 0x20202038));
        CHECKS.due("text", 2, x.text(19));
        CHECKS.due("position", 5, x.position(0));
        CHECKS.due("kind", 8, x.element(1, 0));
        // A byte above 127, from a number below 0.
        CHECKS.due("feed", 20, x.feed(0x3220FF20, -1, Integer.MIN_VALUE, 0, 0));
        CHECKS.due("text", BeamSetter.NONE, x.text(20));
        CHECKS.due("fault", 1, x.fault(0));
        CHECKS.due("feed", 20, x.feed(0x20202020, 0x200A2020, 0x80202020, 0, 0));
        CHECKS.due("text", BeamSetter.NONE, x.text(20));
        CHECKS.due("fault's place", 8, x.fault(1));
    }

    /** Promise 3. */
    private static void texts() {
        BeamSetter x = Checks.setter("metre 3 8;knee 7;wide 16 11;note 8 0;note 8 2;rest 8;");
        CHECKS.due("lines", 6, x.count(0));
        x.put(0, 5);
        x.feed(538976288, 538976288, 538976288, 538976288, 538976288);
        CHECKS.due("too many", -2, x.text(21));
        CHECKS.due("below 0", -2, x.text(-1));
        CHECKS.due("least", -2, x.text(Integer.MIN_VALUE));
        CHECKS.due("most", -2, x.text(Integer.MAX_VALUE));
        CHECKS.due("the tape stays by -2", 20, x.count(10));
        // Behind the 20 blanks: "rest 8;metre 2 4;".
        CHECKS.due("feed", 40, x.feed(0x72657374, 0x20383b6d, 0x65747265, 0x20322034, 0x3b202020));
        CHECKS.due("with a fault", BeamSetter.NONE, x.text(38));
        CHECKS.due("the tape is empty", 0, x.count(10));
        CHECKS.dueAll("all else stays", counts(x), 6, 3, 2, 1, 1, 3, 8, 7, 1, 1, 0, 24, 16, 11, 9);
        CHECKS.due("where it was PUT", 5, x.position(0));
        CHECKS.due("fault", 1, x.fault(0));
        CHECKS.due("-2 is no text", -2, x.text(1));
        CHECKS.due("fault stays by -2", 1, x.fault(0));
        CHECKS.due("place stays by -2", 27, x.fault(1));
        CHECKS.due("undo is still there", 0, x.undo());
        x.put(0, 5);
        CHECKS.due("fewer bytes than there are", 20, x.feed(0x72657374, 0x20343b72, 0x65737420, 0x343b2020, 0x20202020));
        CHECKS.due("the first bytes alone", 1, x.text(7));
        CHECKS.due("no bytes are left", 0, x.count(10));
        CHECKS.dueAll("all anew", counts(x), 1, 1, 0, 0, 1, 4, 4, 9, 4, 0, 0, 24, 16, 12, 9);
        CHECKS.due("nothing to undo", BeamSetter.NONE, x.undo());
        CHECKS.due("fault", 0, x.fault(0));
        CHECKS.due("place", BeamSetter.NONE, x.fault(1));
    }

    /** Promise 4, with FAULT 1. */
    private static void firstFault() {
        BeamSetter x = new BeamSetter();
        CHECKS.due("ahead of any", 0, x.fault(0));
        CHECKS.due("ahead of any", BeamSetter.NONE, x.fault(1));
        CHECKS.due("no such what", BeamSetter.NONE, x.fault(2));
        CHECKS.due("no such what", BeamSetter.NONE, x.fault(-1));
        fault(1, 0, ";");
        fault(1, 0, "8;");
        fault(1, 0, "-;");
        fault(1, 0, "Note 8 0;");
        fault(1, 2, "  notes 8 0;");
        fault(1, 0, "no te 8 0;");
        fault(1, 0, "wid 8 9;");
        fault(1, 4, "noteX 8 0;");
        fault(1, 4, "note\t8 0;");
        fault(1, 5, "note x 0;");
        fault(1, 5, "note -8 0;");
        fault(1, 7, "note 8 x;");
        fault(1, 8, "note 8 -x;");
        fault(1, 8, "note 8 --1;");
        fault(1, 8, "note 8 -;");
        fault(1, 6, "note 8;");
        fault(1, 9, "note 8 1 2;");
        fault(1, 9, "note 8 1 note 8 2;");
        fault(1, 7, "rest 8 1;");
        fault(1, 9, "note 8 0;;");
        fault(1, 6, "split ;");
        fault(1, 8, "split 2 -2;");
        fault(1, 8, "split 2 x;");
        fault(1, 10, "metre 4 4 4;");
        fault(1, 5, "knee ;");
        fault(1, 6, "wide 8;");
        fault(1, 6, "metre -4 4;");
        fault(1, 0, "no ");
        // The length, where more must come.
        fault(1, 4, "note");
        fault(1, 6, "note 8");
        fault(1, 8, "note 8 -");
        fault(1, 9, "note 8 1 ");
        fault(1, 11, "rest 8  \n  ");
        fault(1, 13, "split 1 1 1 1");
        fault(1, 7, "split 4");
        fault(1, 5, "metre");
        fault(1, 7, "metre 4");
        fault(1, 4, "wide");
        // LINES too late, which is less than told already.
        fault(1, 9, "note 8 0;knee 5;");
        fault(1, 7, "rest 8;metre 4 4;");
        fault(1, 7, "rest 8;split 4;");
        fault(1, 7, "rest 8;wide 8 9;");
        fault(1, 8, "split 4;metre 4 4;");
        fault(1, 18, "metre 4 4;split 4;metre 4 4;");
        fault(1, 14, "knee 5;rest 8;knee 5;");
        fault(1, 8, "split 4;metre x;");
    }

    /** FAULT 2. */
    private static void secondFault() {
        fault(2, 6, "metre 0 4;");
        fault(2, 6, "metre 13 4;");
        fault(2, 6, "metre 99999999999999999999 4;");
        fault(2, 6, "metre 4294967300 4;");
        fault(2, 8, "metre 4 3;");
        fault(2, 8, "metre 4 16;");
        fault(2, 8, "metre 4 1;");
        fault(2, 5, "knee 3;");
        fault(2, 5, "knee 25;");
        fault(2, 5, "wide 2 9;");
        fault(2, 5, "wide 64 9;");
        fault(2, 7, "wide 8 3;");
        fault(2, 7, "wide 8 41;");
        fault(2, 5, "note 2 0;");
        fault(2, 5, "rest 0;");
        fault(2, 5, "rest 12;");
        fault(2, 7, "note 8 13;");
        fault(2, 7, "note 8 -13;");
        fault(2, 7, "note 8 -\n 13;");
        fault(2, 7, "note 8 -13");
        fault(2, 7, "note 8 -99999999999;");
        fault(2, 6, "split 0;");
        fault(2, 6, "split 5;");
        fault(2, 8, "split 2 3;");
        fault(2, 8, "split 4 1;");
        fault(2, 8, "split 2 0 2;");
        fault(2, 17, "metre 12 4;split 13;");
        fault(2, 28, "metre 8 4;split 1 1 1 1 1 1 1;");
        fault(2, 28, "metre 6 4;split 1 1 1 1 1 1 1;");
        fault(2, 17, "metre 2 4; split 3;");
        right(2, "metre 12 2;split 12;");
        right(2, "metre 1 8;split 1;");
        right(2, "knee 4;wide 8 4;");
        right(2, "knee 24;wide 32 40;");
        right(2, "metre 00012 08;note 008 0012;");
        right(2, "metre 6 4;split 1 1 1 1 1 1;");
        right(1, "note 8 - 12;");
        right(1, "note 8 -0;");
        right(1, "note8-3;");
        right(2, "split4;\n\n note 8 3 \n;\n");
        right(4, "wide 4 9;wide 8 9;wide 16 9;wide 32 9;");
    }

    /** FAULTS 3, 4, 5. */
    private static void otherFaults() {
        fault(3, 10, "metre 4 4;metre 4 4;");
        fault(3, 10, "metre 4 4;metre x");
        fault(3, 8, "split 4;split 4;");
        fault(3, 7, "knee 5;knee 5;");
        fault(3, 19, "knee 5;metre 4 4; \nknee 6;");
        fault(3, 14, "wide 4 9;wide 4 9;");
        fault(3, 14, "wide 8 9;wide 8 99;");
        fault(3, 24, "wide 16 9;wide 8 9;wide 16 9;");
        String full = Checks.repeated("rest 32;", 32) + Checks.repeated("note 32 1;", 32);
        right(64, full);
        fault(4, full.length() + 1, full + " rest 32;");
        fault(4, full.length(), full + "note");
        fault(1, full.length(), full + "knee 9;");
        fault(1, full.length(), full + "nota 9;");
        fault(5, 7, "split 3;");
        fault(5, 10, "split 1 1 ;");
        fault(1, 10, "split 1 1 x;");
        fault(5, 24, "metre 1 4;note 8 0;note 4 0;");
        fault(5, 24, "metre 1 4;note 8 0;note 4 99;");
        fault(5, 15, "metre 1 8;note 4 0;");
        fault(5, 15, "metre 1 8;rest 4;");
        fault(5, 24, "metre 1 8;rest 16;\nrest 8;");
        right(3, "metre 1 8;rest 16;rest 16;");
        right(3, "metre 1 4;note 8 0;note 8 0;");
        right(3, "metre 1 2;note 4 0;rest 4;");
        right(9, Checks.repeated("rest 4;", 9));
        fault(5, 36, "rest 16;rest 4;rest 4;rest 4;  rest 4;");
    }

    /** Promise 5. */
    private static void elements() {
        BeamSetter x = Checks.setter("metre 3 4;split 2 1;wide 8 10;wide 4 20;note 8 3;note 16 -2;rest 16;note 4 0;"
                + "note 16 5;note 32 -12;note 32 7;note 8 0;rest 8;note 16 1;note 16 2;");
        CHECKS.dueAll("element 0", elements(x, 0), 8, 1, 0, 0, 0, 0, 0, 1);
        CHECKS.dueAll("element 1", elements(x, 1), 16, 1, 4, 0, 0, 10, 0, 2);
        CHECKS.dueAll("element 2", elements(x, 2), 16, 0, 6, 0, 0, 22, -2, 0);
        CHECKS.dueAll("element 3", elements(x, 3), 4, 1, 8, 0, 0, 34, -2, 0);
        CHECKS.dueAll("element 5", elements(x, 5), 32, 1, 18, 0, 1, 66, 1, 3);
        CHECKS.dueAll("element 8", elements(x, 8), 8, 0, 0, 1, 0, 94, -2, 0);
        CHECKS.dueAll("element 10", elements(x, 10), 16, 1, 6, 1, 0, 116, 2, 2);
        CHECKS.dueAll("count", counts(x), 15, 11, 9, 3, 2, 3, 4, 9, 2, 0, 0, 20, 10, 12, 9);
        CHECKS.noIndex("element(-1, 0)", () -> x.element(-1, 0));
        CHECKS.noIndex("element(11, 0)", () -> x.element(11, 0));
        CHECKS.noIndex("element(11, 8)", () -> x.element(11, 8));
        CHECKS.noIndex("element(least, -1)", () -> x.element(Integer.MIN_VALUE, -1));
        CHECKS.noIndex("element(most, 0)", () -> x.element(Integer.MAX_VALUE, 0));
        CHECKS.noElement("element(10, 8)", () -> x.element(10, 8));
        CHECKS.noElement("element(0, -1)", () -> x.element(0, -1));
        BeamSetter y = Checks.setter("metre 6 8;" + Checks.repeated("rest 8;", 13));
        CHECKS.due("PART of threes", 0, y.element(2, 4));
        CHECKS.due("PART of threes", 1, y.element(3, 4));
        CHECKS.due("PART of threes", 0, y.element(6, 4));
        CHECKS.due("MEASURE", 2, y.element(12, 3));
        BeamSetter z = Checks.setter("metre 3 2;" + Checks.repeated("rest 4;", 7));
        CHECKS.due("BEATS of kind 2", 0, z.element(1, 4));
        CHECKS.due("BEATS of kind 2", 2, z.element(4, 4));
        CHECKS.due("TIME within the MEASURE", 40, z.element(5, 2));
        CHECKS.due("MEASURE", 1, z.element(6, 3));
    }

    /** Promise 38, and the PARTS that there are without split. */
    private static void counts() {
        CHECKS.due("PARTS of 6 8", 2, Checks.setter("metre 6 8;").count(8));
        CHECKS.due("PARTS of 12 8", 4, Checks.setter("metre 12 8;").count(8));
        CHECKS.due("PARTS of 4 8", 4, Checks.setter("metre 4 8;").count(8));
        CHECKS.due("PARTS of 6 4", 6, Checks.setter("metre 6 4;").count(8));
        CHECKS.due("PARTS of 12 2", 12, Checks.setter("metre 12 2;").count(8));
        BeamSetter x = Checks.setter("knee 24;metre 5 8;split 3 2;wide 32 4;wide 4 40;wide 16 7;wide 8 8;"
                + Checks.repeated("note 8 1;", 5) + "rest 16;");
        CHECKS.dueAll("count", counts(x), 13, 6, 5, 2, 2, 5, 8, 24, 2, 0, 0, 40, 8, 7, 4);
        CHECKS.due("no such what", BeamSetter.NONE, x.count(15));
        CHECKS.due("no such what", BeamSetter.NONE, x.count(-1));
        CHECKS.due("no such what", BeamSetter.NONE, x.count(Integer.MAX_VALUE));
        x.put(0, 1);
        CHECKS.due("what can be undone", 1, x.count(9));
        x.feed(0, 0, 0, 0, 0);
        CHECKS.due("bytes", 20, x.count(10));
        CHECKS.due("one full MEASURE", 1, Checks.setter(Checks.repeated("rest 4;", 4)).count(4));
        CHECKS.due("one more", 2, Checks.setter(Checks.repeated("rest 4;", 5)).count(4));
    }

    public static void main(String[] args) {
        newObject();
        feeding();
        texts();
        firstFault();
        secondFault();
        otherFaults();
        elements();
        counts();
        CHECKS.end();
    }
}
