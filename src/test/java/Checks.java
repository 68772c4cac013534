import java.util.NoSuchElementException;

/** What the tests share: texts put on the tape, answers held against those that are due. */
final class Checks {
    interface Asked {
        int ask();
    }

    private int wrong = 0;
    private int asked = 0;

    void due(String what, long want, long got) {
        asked++;
        if (got != want) {
            wrong++;
            System.out.println(what + " answered " + got + ", due is " + want);
        }
    }

    /** Answers one behind the other, for calls that differ by their last argument 0, 1 .. alone. */
    void dueAll(String what, int[] got, int... want) {
        due(what + ": how many", want.length, got.length);
        for (int i = 0; i < want.length && i < got.length; i++) {
            due(what + " [" + i + "]", want[i], got[i]);
        }
    }

    void noIndex(String what, Asked call) {
        due(what + ", 1: IndexOutOfBoundsException", 1, thrown(call));
    }

    void noElement(String what, Asked call) {
        due(what + ", 2: NoSuchElementException", 2, thrown(call));
    }

    private static int thrown(Asked call) {
        try {
            call.ask();
            return 0;
        } catch (ArrayIndexOutOfBoundsException e) {
            return 3;
        } catch (IndexOutOfBoundsException e) {
            return 1;
        } catch (NoSuchElementException e) {
            return 2;
        }
    }

    void end() {
        if (asked == 0) {
            System.out.println("nothing was asked");
        }
        if (wrong > 0 || asked == 0) {
            System.exit(1);
        }
    }

    /** Puts a text on the tape: the answer of text(). */
    static int say(BeamSetter x, String text) {
        for (int at = 0; at < text.length(); at += 20) {
            int[] five = new int[5];
            for (int k = 0; k < 20; k++) {
                int sign = at + k < text.length() ? text.charAt(at + k) & 255 : 32;
                five[k / 4] = five[k / 4] << 8 | sign;
            }
            x.feed(five[0], five[1], five[2], five[3], five[4]);
        }
        return x.text(text.length());
    }

    static BeamSetter setter(String text) {
        BeamSetter x = new BeamSetter();
        if (say(x, text) < 0) {
            throw new IllegalArgumentException("fault " + x.fault(0) + " at " + x.fault(1) + " of " + text);
        }
        return x;
    }

    static String repeated(String line, int times) {
        return line.repeat(times);
    }
}
