import java.util.ArrayList;
import java.util.List;
import java.util.NoSuchElementException;

/** Runs of calls picked by a written-down seed: BeamSetter must answer as PlainSetter does. */
public final class RandomRunsTest {
    private interface Call {
        int on(BeamSetter x, int[] a);
    }

    private interface PlainCall {
        int on(PlainSetter x, int[] a);
    }

    private record Pair(String name, String sorts, Call call, PlainCall plain) {
    }

    // Sorts of arguments: e ELEMENT, g GROUP, p POSITION, w what, h height, s height near the one ahead,
    // k small number, n smoothness, u knee, b 1 .. 12, r rank.
    private static final List<Pair> PAIRS = List.of(
            new Pair("fault", "w", (x, a) -> x.fault(a[0]), (x, a) -> x.fault(a[0])),
            new Pair("element", "ew", (x, a) -> x.element(a[0], a[1]), (x, a) -> x.element(a[0], a[1])),
            new Pair("position", "e", (x, a) -> x.position(a[0]), (x, a) -> x.position(a[0])),
            new Pair("direction", "e", (x, a) -> x.direction(a[0]), (x, a) -> x.direction(a[0])),
            new Pair("put", "ep", (x, a) -> x.put(a[0], a[1]), (x, a) -> x.put(a[0], a[1])),
            new Pair("undo", "", (x, a) -> x.undo(), (x, a) -> x.undo()),
            new Pair("group", "gw", (x, a) -> x.group(a[0], a[1]), (x, a) -> x.group(a[0], a[1])),
            new Pair("want", "g", (x, a) -> x.want(a[0]), (x, a) -> x.want(a[0])),
            new Pair("ideal", "e", (x, a) -> x.ideal(a[0]), (x, a) -> x.ideal(a[0])),
            new Pair("ugliness", "ghsw", (x, a) -> x.ugliness(a[0], a[1], a[2], a[3]),
                    (x, a) -> x.ugliness(a[0], a[1], a[2], a[3])),
            new Pair("best", "gw", (x, a) -> x.best(a[0], a[1]), (x, a) -> x.best(a[0], a[1])),
            new Pair("ranked", "grw", (x, a) -> x.ranked(a[0], a[1], a[2]), (x, a) -> x.ranked(a[0], a[1], a[2])),
            new Pair("rank", "ghs", (x, a) -> x.rank(a[0], a[1], a[2]), (x, a) -> x.rank(a[0], a[1], a[2])),
            new Pair("stem", "ew", (x, a) -> x.stem(a[0], a[1]), (x, a) -> x.stem(a[0], a[1])),
            new Pair("touch", "gkk", (x, a) -> x.touch(a[0], a[1], a[2]), (x, a) -> x.touch(a[0], a[1], a[2])),
            new Pair("beams", "ew", (x, a) -> x.beams(a[0], a[1]), (x, a) -> x.beams(a[0], a[1])),
            new Pair("total", "w", (x, a) -> x.total(a[0]), (x, a) -> x.total(a[0])),
            new Pair("ifPut", "epw", (x, a) -> x.ifPut(a[0], a[1], a[2]), (x, a) -> x.ifPut(a[0], a[1], a[2])),
            new Pair("wish", "e", (x, a) -> x.wish(a[0]), (x, a) -> x.wish(a[0])),
            new Pair("ifShifted", "pw", (x, a) -> x.ifShifted(a[0], a[1]), (x, a) -> x.ifShifted(a[0], a[1])),
            new Pair("shift", "", (x, a) -> x.shift(), (x, a) -> x.shift()),
            new Pair("mirrored", "g", (x, a) -> x.mirrored(a[0]), (x, a) -> x.mirrored(a[0])),
            new Pair("ifKnee", "uw", (x, a) -> x.ifKnee(a[0], a[1]), (x, a) -> x.ifKnee(a[0], a[1])),
            new Pair("ifParts", "b", (x, a) -> x.ifParts(a[0]), (x, a) -> x.ifParts(a[0])),
            new Pair("alone", "w", (x, a) -> x.alone(a[0]), (x, a) -> x.alone(a[0])),
            new Pair("stretches", "gk", (x, a) -> x.stretches(a[0], a[1]), (x, a) -> x.stretches(a[0], a[1])),
            new Pair("stretch", "gkkw", (x, a) -> x.stretch(a[0], a[1], a[2], a[3]),
                    (x, a) -> x.stretch(a[0], a[1], a[2], a[3])),
            new Pair("level", "gw", (x, a) -> x.level(a[0], a[1]), (x, a) -> x.level(a[0], a[1])),
            new Pair("ifCut", "gk", (x, a) -> x.ifCut(a[0], a[1]), (x, a) -> x.ifCut(a[0], a[1])),
            new Pair("cut", "g", (x, a) -> x.cut(a[0]), (x, a) -> x.cut(a[0])),
            new Pair("smooth", "nw", (x, a) -> x.smooth(a[0], a[1]), (x, a) -> x.smooth(a[0], a[1])),
            new Pair("smoothed", "ngw", (x, a) -> x.smoothed(a[0], a[1], a[2]),
                    (x, a) -> x.smoothed(a[0], a[1], a[2])),
            new Pair("single", "ew", (x, a) -> x.single(a[0], a[1]), (x, a) -> x.single(a[0], a[1])),
            new Pair("extreme", "gw", (x, a) -> x.extreme(a[0], a[1]), (x, a) -> x.extreme(a[0], a[1])),
            new Pair("count", "c", (x, a) -> x.count(a[0]), (x, a) -> x.count(a[0])));

    private static long state;
    private static int wrong = 0;

    private static int pick(int n) {
        state = state * 6364136223846793005L + 1442695040888963407L;
        return (int) ((state >>> 33) % n);
    }

    private static int between(int low, int high) {
        return low + pick(high - low + 1);
    }

    private static boolean once(int in) {
        return pick(in) == 0;
    }

    private static int oddNumber() {
        int[] odd = {Integer.MIN_VALUE, Integer.MAX_VALUE, -1, -61, 61, 100, 1000000, -13, 13, Integer.MIN_VALUE + 5};
        return odd[pick(odd.length)];
    }

    // ---- texts

    private static String blanks() {
        String[] some = {" ", " ", " ", "  ", "\n", " \n "};
        return some[pick(some.length)];
    }

    private static String number(int value) {
        return (once(20) ? "0" : "") + value;
    }

    private static String position(int p) {
        return p < 0 ? "-" + (once(20) ? " " : "") + number(-p) : number(p);
    }

    /** A TEXT that is near to a right one; most are right. */
    private static String someText() {
        StringBuilder text = new StringBuilder();
        int beats = 4;
        int unit = 4;
        if (once(8)) {
            text.append("knee").append(blanks()).append(number(between(4, 24))).append(";");
        }
        if (!once(3)) {
            beats = between(1, 12);
            unit = 2 << pick(3);
            text.append("metre").append(blanks()).append(number(beats)).append(blanks()).append(unit).append(";");
        }
        if (once(2)) {
            text.append("split");
            int left = beats;
            for (int n = 0; n < 6 && left > 0; n++) {
                int part = n == 5 || once(4) ? left : between(1, left);
                text.append(blanks()).append(part);
                left -= part;
            }
            text.append(";");
        }
        for (int kind = 4; kind <= 32; kind *= 2) {
            if (once(3)) {
                text.append("wide ").append(kind).append(" ").append(number(between(4, 40))).append(";\n");
            }
        }
        if (once(2) && text.indexOf("knee") < 0) {
            text.append("knee ").append(between(4, 16)).append(";");
        }
        return text + someElements(beats * 32 / unit);
    }

    private static String someElements(int measure) {
        StringBuilder text = new StringBuilder();
        int many = once(6) ? (once(2) ? 64 : between(40, 64)) : between(0, 24);
        int style = pick(5);
        int middle = between(-8, 8);
        int reach = new int[] {2, 4, 8, 12, 24}[pick(5)];
        int usual = 8 << pick(3);
        int time = 0;
        for (int i = 0; i < many; i++) {
            int kind = once(style == 0 ? 2 : 5) ? 4 << pick(4) : usual;
            int left = measure - time % measure;
            while (32 / kind > left) {
                kind *= 2;
            }
            time += 32 / kind;
            if (once(12)) {
                text.append("rest").append(blanks()).append(kind).append(";");
            } else {
                int p = Math.max(-12, Math.min(12, middle + between(-reach / 2, reach / 2)));
                p = style == 3 && once(2) ? Math.max(-12, Math.min(12, p + (once(2) ? -9 : 9))) : p;
                text.append("note ").append(kind).append(once(30) ? "\n" : " ").append(position(p)).append(";");
            }
        }
        return text.toString();
    }

    private static String spoiled(String text) {
        if (text.isEmpty()) {
            return ";";
        }
        String[] inserts = {" ", "-", ";", "0", "9", "13", "x", "A", "#", "note ", "rest 8;", "knee 9;", "metre 4 4;",
            "split 1;", "split 2 2;", "wide 8 9;", "99999999999", "\t", "\n", "note 8 1;", "note 4 -12;"};
        int at = pick(text.length() + 1);
        int kind = pick(4);
        if (kind == 0) {
            return text.substring(0, at);
        }
        if (kind == 1 && at < text.length()) {
            return text.substring(0, at) + text.substring(at + 1);
        }
        if (kind == 2) {
            int semi = text.indexOf(';', at);
            at = semi < 0 ? at : semi + 1;
        }
        return text.substring(0, at) + inserts[pick(inserts.length)] + text.substring(at);
    }

    // ---- runs

    private static int argument(char sort, int before, PlainSetter plain) {
        if (once(25)) {
            return oddNumber();
        }
        return switch (sort) {
            case 'e' -> between(-1, plain.count(1));
            case 'g' -> between(once(10) ? -1 : 0, Math.max(0, plain.count(3) - (once(10) ? 0 : 1)));
            case 'p' -> between(-13, 13);
            case 'w' -> between(once(8) ? -1 : 0, once(4) ? 8 : 3);
            case 'h' -> between(-61, 61);
            case 's' -> before + between(-9, 9);
            case 'k' -> between(-1, 4);
            case 'n' -> once(2) ? between(0, 12) : between(-1, 121);
            case 'u' -> between(3, 25);
            case 'b' -> between(0, 13);
            case 'r' -> once(2) ? between(-1, 10) : between(0, 600);
            default -> between(-1, 15);
        };
    }

    private static int[] arguments(Pair pair, PlainSetter plain) {
        int[] a = new int[pair.sorts.length()];
        for (int k = 0; k < a.length; k++) {
            a[k] = argument(pair.sorts.charAt(k), k == 0 ? 0 : a[k - 1], plain);
        }
        // Heights near the best ones, or few SETTINGS would be ALLOWED.
        if (pair.sorts.startsWith("ghs") && !once(3)) {
            int best = plain.best(a[0], 0);
            if (best != PlainSetter.NOTHING) {
                a[1] = best + between(-8, 8);
                a[2] = a[1] + between(-9, 9);
            }
        }
        return a;
    }

    private static String answer(Pair pair, BeamSetter x, int[] a) {
        try {
            return Integer.toString(pair.call.on(x, a));
        } catch (IndexOutOfBoundsException e) {
            return e instanceof ArrayIndexOutOfBoundsException ? "machine" : "index";
        } catch (NoSuchElementException e) {
            return "element";
        }
    }

    private static String answer(Pair pair, PlainSetter x, int[] a) {
        try {
            return Integer.toString(pair.plain.on(x, a));
        } catch (IndexOutOfBoundsException e) {
            return "index";
        } catch (NoSuchElementException e) {
            return "element";
        }
    }

    private static void compare(long seed, String call, String got, String due) {
        if (!got.equals(due)) {
            wrong++;
            System.out.println("seed " + seed + ": " + call + " answered " + got + ", due is " + due);
        }
    }

    private static int byteAt(String text, int at) {
        return at < text.length() ? text.charAt(at) & 255 : 32;
    }

    private static int load(long seed, BeamSetter x, PlainSetter plain, String text) {
        int calls = 0;
        for (int at = 0; at < text.length(); at += 20) {
            int[] five = new int[5];
            for (int k = 0; k < 20; k++) {
                five[k / 4] = five[k / 4] << 8 | byteAt(text, at + k);
            }
            int got = x.feed(five[0], five[1], five[2], five[3], five[4]);
            compare(seed, "feed", "" + got, "" + plain.feed(five));
            calls++;
        }
        int n = once(20) ? between(-1, 901) : Math.min(text.length(), plain.count(10));
        compare(seed, "text(" + n + ") of " + text, "" + x.text(n), "" + plain.text(n));
        return calls + 1;
    }

    private static void run(long seed, int most) {
        state = seed * 0x9E3779B97F4A7C15L + 12345;
        pick(2);
        BeamSetter x = new BeamSetter();
        PlainSetter plain = new PlainSetter();
        int calls = 0;
        String text = "";
        while (calls < most) {
            if (calls == 0 || once(60)) {
                text = someText();
                text = once(4) ? spoiled(text) : text;
                calls += load(seed, x, plain, text);
            }
            Pair pair = PAIRS.get(pick(PAIRS.size()));
            int[] a = arguments(pair, plain);
            List<Integer> shown = new ArrayList<>();
            for (int v : a) {
                shown.add(v);
            }
            compare(seed, pair.name + shown + " after " + text, answer(pair, x, a), answer(pair, plain, a));
            calls++;
        }
    }

    public static void main(String[] args) {
        int runs = args.length > 0 ? Integer.parseInt(args[0]) : 150;
        int first = args.length > 1 ? Integer.parseInt(args[1]) : 1;
        for (int seed = first; seed < first + runs && wrong < 20; seed++) {
            run(seed, 300);
        }
        if (wrong > 0) {
            System.exit(1);
        }
    }
}
