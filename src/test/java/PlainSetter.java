import java.util.ArrayList;
import java.util.Arrays;
import java.util.Comparator;
import java.util.HashMap;
import java.util.LinkedList;
import java.util.List;
import java.util.Map;
import java.util.NoSuchElementException;
import java.util.TreeSet;

/**
 * The document again, in the plainest words, to hold BeamSetter against: each SETTING is tried, nothing is
 * bounded ahead, nothing is packed. Answers that are exceptions are thrown likewise.
 */
final class PlainSetter {
    static final int NONE = -1;
    static final int NOTHING = -1000000;

    record Element(boolean note, int kind, int time, int x) {
        int beams() {
            return note ? beamsOf(kind) : 0;
        }

        int duration() {
            return 32 / kind;
        }
    }

    record Setting(int l, int r, int ugliness, int stems, int slope, int staff, long lengths) {
        int tell(int what) {
            return new int[] {l, r, ugliness, stems, slope, staff}[what];
        }
    }

    record Token(char sort, int place, String signs) {
    }

    static final class Fault extends Exception {
        private static final long serialVersionUID = 1;
        final int number;
        final int place;

        Fault(int number, int place) {
            this.number = number;
            this.place = place;
        }
    }

    static int beamsOf(int kind) {
        return kind == 4 ? 0 : kind == 8 ? 1 : kind == 16 ? 2 : 3;
    }

    /** The text as it was read. */
    static final class Sheet {
        int lines;
        int beats = 4;
        int unit = 4;
        int knee = 9;
        List<Integer> split = null;
        Map<Integer, Integer> wide = new HashMap<>(Map.of(4, 24, 8, 16, 16, 12, 32, 9));
        List<Element> elements = new ArrayList<>();
        List<Integer> heads = new ArrayList<>();

        int measure() {
            return beats * 32 / unit;
        }

        List<Integer> parts() {
            if (split != null) {
                return split;
            }
            List<Integer> made = new ArrayList<>();
            int each = unit == 8 && beats % 3 == 0 ? 3 : 1;
            for (int n = 0; n < beats / each; n++) {
                made.add(each);
            }
            return made;
        }

        int part(int i, List<Integer> lengths) {
            int beat = elements.get(i).time % measure() * unit / 32;
            int behind = 0;
            for (int n = 0; n < lengths.size(); n++) {
                behind += lengths.get(n);
                if (beat < behind) {
                    return n;
                }
            }
            throw new IllegalStateException();
        }

        List<List<Integer>> groups(List<Integer> lengths) {
            List<List<Integer>> all = new ArrayList<>();
            List<Integer> open = new ArrayList<>();
            for (int i = 0; i < elements.size(); i++) {
                boolean beamed = elements.get(i).beams() > 0;
                if (!open.isEmpty()) {
                    int before = open.get(0);
                    boolean same = part(i, lengths) == part(before, lengths)
                            && elements.get(i).time / measure() == elements.get(before).time / measure();
                    if (!beamed || !same) {
                        if (open.size() > 1) {
                            all.add(open);
                        }
                        open = new ArrayList<>();
                    }
                }
                if (beamed) {
                    open.add(i);
                }
            }
            if (open.size() > 1) {
                all.add(open);
            }
            return all;
        }

        List<List<Integer>> groups() {
            return groups(parts());
        }
    }

    // ---- reading

    private static final class Parser {
        final List<Token> tokens = new ArrayList<>();
        int next = 0;
        final Sheet sheet = new Sheet();
        final TreeSet<String> told = new TreeSet<>();

        Parser(String text) {
            int at = 0;
            while (at < text.length()) {
                char c = text.charAt(at);
                int end = at + 1;
                if (c == ' ' || c == '\n') {
                    at = end;
                    continue;
                }
                char sort = c == ';' || c == '-' ? c : 'x';
                if (c >= 'a' && c <= 'z') {
                    sort = 'w';
                    while (end < text.length() && text.charAt(end) >= 'a' && text.charAt(end) <= 'z') {
                        end++;
                    }
                } else if (c >= '0' && c <= '9') {
                    sort = 'n';
                    while (end < text.length() && text.charAt(end) >= '0' && text.charAt(end) <= '9') {
                        end++;
                    }
                }
                tokens.add(new Token(sort, at, text.substring(at, end)));
                at = end;
            }
            tokens.add(new Token('e', text.length(), ""));
        }

        Token take(char sort) throws Fault {
            Token t = tokens.get(next);
            if (t.sort != sort) {
                throw new Fault(1, t.place);
            }
            next++;
            return t;
        }

        static boolean isIn(String digits, int... values) {
            for (int v : values) {
                if (digits.replaceFirst("^0+(?=.)", "").equals(Integer.toString(v))) {
                    return true;
                }
            }
            return false;
        }

        static int[] span(int from, int to) {
            int[] all = new int[Math.max(0, to - from + 1)];
            for (int i = 0; i < all.length; i++) {
                all[i] = from + i;
            }
            return all;
        }

        int number(int... values) throws Fault {
            Token t = take('n');
            if (!isIn(t.signs, values)) {
                throw new Fault(2, t.place);
            }
            return Integer.parseInt(t.signs);
        }

        void line() throws Fault {
            Token word = tokens.get(next);
            boolean head = List.of("metre", "split", "knee", "wide").contains(word.signs);
            boolean late = head && !sheet.elements.isEmpty() || word.signs.equals("metre") && told.contains("split");
            if (word.sort != 'w' || late || !head && !word.signs.equals("note") && !word.signs.equals("rest")) {
                throw new Fault(1, word.place);
            }
            next++;
            if (head && !word.signs.equals("wide") && !told.add(word.signs)) {
                throw new Fault(3, word.place);
            }
            if (!head && sheet.elements.size() == 64) {
                throw new Fault(4, word.place);
            }
            switch (word.signs) {
                case "metre" -> {
                    sheet.beats = number(span(1, 12));
                    sheet.unit = number(2, 4, 8);
                }
                case "split" -> split();
                case "knee" -> sheet.knee = number(span(4, 24));
                case "wide" -> {
                    int place = tokens.get(next).place;
                    int kind = number(4, 8, 16, 32);
                    if (!told.add("wide" + kind)) {
                        throw new Fault(3, place);
                    }
                    sheet.wide.put(kind, number(span(4, 40)));
                }
                default -> element(word.signs.equals("note"));
            }
            take(';');
            sheet.lines++;
        }

        void split() throws Fault {
            sheet.split = new ArrayList<>();
            int left = sheet.beats;
            while (sheet.split.isEmpty() || tokens.get(next).sort == 'n') {
                int most = sheet.split.size() == 6 ? 0 : left;
                int length = number(span(1, most));
                sheet.split.add(length);
                left -= length;
            }
            Token end = tokens.get(next);
            if (left > 0 && end.sort == ';') {
                throw new Fault(5, end.place);
            }
        }

        void element(boolean note) throws Fault {
            int place = tokens.get(next).place;
            int kind = number(4, 8, 16, 32);
            int time = 0;
            int x = 0;
            for (Element e : sheet.elements) {
                time += e.duration();
                x += sheet.wide.get(e.kind);
            }
            Element made = new Element(note, kind, time, x);
            if (time / sheet.measure() != (time + made.duration() - 1) / sheet.measure()) {
                throw new Fault(5, place);
            }
            int head = 0;
            if (note) {
                Token first = tokens.get(next);
                if (first.sort == '-') {
                    next++;
                }
                Token digits = take('n');
                if (!isIn(digits.signs, span(0, 12))) {
                    throw new Fault(2, first.place);
                }
                head = Integer.parseInt(digits.signs) * (first.sort == '-' ? -1 : 1);
            }
            sheet.elements.add(made);
            sheet.heads.add(head);
        }

        Sheet read() throws Fault {
            while (tokens.get(next).sort != 'e') {
                line();
            }
            return sheet;
        }
    }

    // ---- one GROUP at some POSITIONS

    private static final Map<String, Beamed> JUDGED = new HashMap<>();

    static final class Beamed {
        final int n;
        final int[] x;
        final int[] p;
        final int[] b;
        final int[] way;
        final int xx;
        boolean kneed;
        int want;
        final List<Setting> allowed = new ArrayList<>();

        static Beamed of(int[] x, int[] p, int[] b, int knee) {
            String key = Arrays.toString(x) + Arrays.toString(p) + Arrays.toString(b) + knee;
            if (JUDGED.size() > 1000) {
                JUDGED.clear();
            }
            return JUDGED.computeIfAbsent(key, k -> new Beamed(x, p, b, knee));
        }

        private Beamed(int[] x, int[] p, int[] b, int knee) {
            n = x.length;
            this.x = x;
            this.p = p;
            this.b = b;
            way = new int[n];
            xx = x[n - 1];
            ways(knee);
            want();
            for (int l = -60; l <= 60; l++) {
                for (int r = -60; r <= 60; r++) {
                    if (Math.abs(l - r) <= 8 && isAllowed(l, r)) {
                        allowed.add(judge(l, r));
                    }
                }
            }
            Comparator<Setting> order = Comparator.comparingInt(Setting::ugliness);
            order = order.thenComparingInt(s -> Math.abs(s.r - s.l)).thenComparingLong(Setting::lengths);
            Comparator<Setting> last = Comparator.comparingInt(Setting::l).thenComparingInt(Setting::r);
            allowed.sort(order.thenComparing(way[0] > 0 ? last : last.reversed()));
        }

        private void ways(int knee) {
            TreeSet<Integer> unlike = new TreeSet<>();
            for (int q : p) {
                unlike.add(q);
            }
            List<Integer> order = new ArrayList<>(unlike);
            int greatest = 0;
            for (int i = 1; i < order.size(); i++) {
                greatest = Math.max(greatest, order.get(i) - order.get(i - 1));
            }
            Integer upper = null;
            for (int far = 0; far <= 24 && upper == null && greatest >= knee; far++) {
                for (int i = 1; i < order.size() && upper == null; i++) {
                    int both = order.get(i) + order.get(i - 1);
                    if (order.get(i) - order.get(i - 1) == greatest && Math.abs(both) == far) {
                        upper = order.get(i);
                    }
                }
            }
            kneed = upper != null;
            for (int i = 0; i < n; i++) {
                way[i] = kneed ? (p[i] >= upper ? -1 : 1) : allAlike();
            }
        }

        private int allAlike() {
            int top = Math.max(0, Arrays.stream(p).max().getAsInt());
            int bottom = Math.max(0, -Arrays.stream(p).min().getAsInt());
            if (top > bottom) {
                return -1;
            }
            if (bottom > top) {
                return 1;
            }
            int sum = Arrays.stream(p).sum();
            if (sum > 0) {
                return -1;
            }
            if (sum < 0) {
                return 1;
            }
            return p[0] >= 0 ? -1 : 1;
        }

        private void want() {
            int rise = p[n - 1] - p[0];
            want = rise > 5 ? 5 : rise < -5 ? -5 : rise;
            if (!kneed) {
                for (int i = 1; i < n - 1; i++) {
                    boolean overBoth = p[i] > p[0] && p[i] > p[n - 1];
                    boolean underBoth = p[i] < p[0] && p[i] < p[n - 1];
                    if (way[0] == 1 ? overBoth : underBoth) {
                        want = 0;
                    }
                }
            }
        }

        int ideal(int i) {
            return idealOf(b[i], way[i], p[i]);
        }

        static int idealOf(int beams, int way, int head) {
            int usual = beams == 3 ? 17 : beams == 2 ? 15 : 14;
            boolean towards = way == 1 && head < 0 || way == -1 && head > 0;
            return towards ? Math.max(usual, Math.abs(2 * head)) : usual;
        }

        long height(int l, int r, int i) {
            return (long) l * (xx - x[i]) + (long) r * x[i];
        }

        long length(int l, int r, int i) {
            long up = height(l, r, i) - 2L * p[i] * xx;
            return way[i] == 1 ? up : -up;
        }

        boolean isAllowed(int l, int r) {
            for (int i = 0; i < n; i++) {
                int least = b[i] == 1 ? 10 : b[i] == 2 ? 11 : 13;
                if (length(l, r, i) < (long) least * xx || length(l, r, i) > 44L * xx) {
                    return false;
                }
            }
            return true;
        }

        private Setting judge(int l, int r) {
            long stems = 0;
            long lengths = 0;
            for (int i = 0; i < n; i++) {
                long off = length(l, r, i) - (long) ideal(i) * xx;
                stems += off >= 0 ? off : -2 * off;
                lengths += length(l, r, i);
            }
            int rise = r - l;
            int slope = 6 * Math.abs(rise - want);
            if (rise > 0 && want < 0 || rise < 0 && want > 0) {
                slope += 20;
            }
            int staff = staff(l, 0, rise) + staff(r, n - 1, -rise);
            int all = (int) (stems / xx);
            return new Setting(l, r, all + slope + staff, all, slope, staff, lengths);
        }

        private int staff(int first, int note, int up) {
            int sum = 0;
            for (int k = 0; k < b[note]; k++) {
                int h = way[note] == 1 ? first - 3 * k : first + 3 * k;
                if (Math.abs(h) <= 9) {
                    int m = ((h % 4) + 4) % 4;
                    if (m == 2) {
                        sum += 25;
                    } else if (m == 0) {
                        sum += up == 0 ? 2 : 1;
                    } else if (m == 1 && up < 0 || m == 3 && up > 0) {
                        sum += 8;
                    }
                }
            }
            return sum;
        }

        Setting best() {
            return allowed.isEmpty() ? null : allowed.get(0);
        }

        int indexOf(int l, int r) {
            for (int k = 0; k < allowed.size(); k++) {
                if (allowed.get(k).l == l && allowed.get(k).r == r) {
                    return k;
                }
            }
            return -1;
        }
    }

    // ---- the face

    private final List<Integer> tape = new ArrayList<>();
    private Sheet sheet = new Sheet();
    private final LinkedList<int[]> puts = new LinkedList<>();
    private int fault = 0;
    private int place = NONE;

    private List<List<Integer>> groups() {
        return sheet.groups();
    }

    private boolean hasElement(int i) {
        return i >= 0 && i < sheet.elements.size();
    }

    private boolean hasNote(int i) {
        return hasElement(i) && sheet.elements.get(i).note;
    }

    private boolean hasGroup(int g) {
        return g >= 0 && g < groups().size();
    }

    private int groupOf(int i) {
        for (int g = 0; g < groups().size(); g++) {
            if (groups().get(g).contains(i)) {
                return g;
            }
        }
        return -2;
    }

    private Beamed beamed(List<Integer> notes, List<Integer> heads, int knee) {
        int n = notes.size();
        int[] x = new int[n];
        int[] p = new int[n];
        int[] b = new int[n];
        for (int k = 0; k < n; k++) {
            x[k] = sheet.elements.get(notes.get(k)).x - sheet.elements.get(notes.get(0)).x;
            p[k] = heads.get(notes.get(k));
            b[k] = sheet.elements.get(notes.get(k)).beams();
        }
        return Beamed.of(x, p, b, knee);
    }

    private Beamed now(int g) {
        return beamed(groups().get(g), sheet.heads, sheet.knee);
    }

    int feed(int... numbers) {
        if (tape.size() + 20 > 900) {
            return NONE;
        }
        for (int number : numbers) {
            for (int k = 3; k >= 0; k--) {
                tape.add((number >>> (8 * k)) % 256);
            }
        }
        return tape.size();
    }

    int text(int n) {
        if (n < 0 || n > tape.size()) {
            return -2;
        }
        StringBuilder signs = new StringBuilder();
        for (int k = 0; k < n; k++) {
            signs.append((char) (tape.get(k) & 255));
        }
        tape.clear();
        try {
            sheet = new Parser(signs.toString()).read();
            fault = 0;
            place = NONE;
            puts.clear();
            return sheet.lines;
        } catch (Fault f) {
            fault = f.number;
            place = f.place;
            return NONE;
        }
    }

    int fault(int what) {
        return what == 0 ? fault : what == 1 ? place : NONE;
    }

    int element(int i, int what) {
        if (!hasElement(i)) {
            throw new IndexOutOfBoundsException();
        }
        Element e = sheet.elements.get(i);
        return switch (what) {
            case 0 -> e.kind;
            case 1 -> e.note ? 1 : 0;
            case 2 -> e.time % sheet.measure();
            case 3 -> e.time / sheet.measure();
            case 4 -> sheet.part(i, sheet.parts());
            case 5 -> e.x;
            case 6 -> groupOf(i);
            case 7 -> e.beams();
            default -> throw new NoSuchElementException();
        };
    }

    int position(int i) {
        return hasNote(i) ? sheet.heads.get(i) : NOTHING;
    }

    int direction(int i) {
        if (!hasElement(i)) {
            return NOTHING;
        }
        int g = groupOf(i);
        return g < 0 ? 0 : now(g).way[groups().get(g).indexOf(i)];
    }

    int put(int i, int position) {
        if (!hasNote(i) || Math.abs((long) position) > 12) {
            return NOTHING;
        }
        int was = sheet.heads.set(i, position);
        puts.addLast(new int[] {i, was});
        if (puts.size() > 20) {
            puts.removeFirst();
        }
        return was;
    }

    int undo() {
        if (puts.isEmpty()) {
            return NONE;
        }
        int[] last = puts.removeLast();
        sheet.heads.set(last[0], last[1]);
        return puts.size();
    }

    int group(int g, int what) {
        if (!hasGroup(g)) {
            throw new IndexOutOfBoundsException();
        }
        Beamed b = now(g);
        return switch (what) {
            case 0 -> groups().get(g).get(0);
            case 1 -> b.n;
            case 2 -> b.kneed ? 1 : 0;
            case 3 -> b.xx;
            case 4 -> Arrays.stream(b.b).max().getAsInt();
            case 5 -> b.allowed.size();
            case 6 -> (int) Arrays.stream(b.way).filter(w -> w == 1).count();
            default -> throw new NoSuchElementException();
        };
    }

    int want(int g) {
        return hasGroup(g) ? now(g).want : NOTHING;
    }

    int ideal(int i) {
        if (!hasElement(i)) {
            return NONE;
        }
        int g = groupOf(i);
        return g < 0 ? -2 : now(g).ideal(groups().get(g).indexOf(i));
    }

    private static boolean isSetting(int l, int r) {
        return Math.abs((long) l) <= 60 && Math.abs((long) r) <= 60 && Math.abs((long) l - r) <= 8;
    }

    int ugliness(int g, int l, int r, int what) {
        if (!hasGroup(g) || !isSetting(l, r) || what < 0 || what > 3) {
            return NONE;
        }
        int k = now(g).indexOf(l, r);
        return k < 0 ? -2 : now(g).allowed.get(k).tell(what + 2);
    }

    int best(int g, int what) {
        return ranked(g, 0, what);
    }

    int ranked(int g, int k, int what) {
        if (!hasGroup(g) || k < 0 || k >= now(g).allowed.size() || what < 0 || what > 5) {
            return NOTHING;
        }
        return now(g).allowed.get(k).tell(what);
    }

    int rank(int g, int l, int r) {
        if (!hasGroup(g) || !isSetting(l, r)) {
            return NONE;
        }
        int k = now(g).indexOf(l, r);
        return k < 0 ? -2 : k;
    }

    int stem(int i, int what) {
        if (!hasElement(i) || groupOf(i) < 0 || what < 0 || what > 3) {
            return NOTHING;
        }
        Beamed b = now(groupOf(i));
        Setting s = b.best();
        if (s == null) {
            return NOTHING;
        }
        int at = groups().get(groupOf(i)).indexOf(i);
        long above = what < 2 ? b.length(s.l, s.r, at) : b.height(s.l, s.r, at);
        long below = b.xx;
        for (long d = below; d > 1; d--) {
            if (above % d == 0 && below % d == 0) {
                above /= d;
                below /= d;
            }
        }
        return (int) (what % 2 == 0 ? above : below);
    }

    int touch(int g, int end, int k) {
        if (!hasGroup(g) || end < 0 || end > 1 || k < 0) {
            return NONE;
        }
        Beamed b = now(g);
        int note = end == 0 ? 0 : b.n - 1;
        if (k >= b.b[note]) {
            return NONE;
        }
        if (b.best() == null) {
            return -2;
        }
        int h = (end == 0 ? b.best().l : b.best().r) - b.way[note] * 3 * k;
        return h < -9 || h > 9 ? -3 : ((h % 4) + 4) % 4;
    }

    int beams(int i, int what) {
        if (!hasElement(i) || what < 0 || what > 3) {
            return NONE;
        }
        int g = groupOf(i);
        if (g < 0) {
            return -2;
        }
        List<Integer> notes = groups().get(g);
        int at = notes.indexOf(i);
        int own = sheet.elements.get(i).beams();
        int ahead = at == 0 ? 0 : sheet.elements.get(i - 1).beams();
        int behind = at == notes.size() - 1 ? 0 : sheet.elements.get(i + 1).beams();
        int left = Math.min(own, ahead);
        int right = Math.min(own, behind);
        int stubs = own - Math.max(left, right);
        boolean goLeft;
        if (at == 0) {
            goLeft = false;
        } else if (at == notes.size() - 1) {
            goLeft = true;
        } else if (ahead != behind) {
            goLeft = ahead > behind;
        } else {
            Element e = sheet.elements.get(i);
            goLeft = e.time % sheet.measure() / e.duration() % 2 == 1;
        }
        return new int[] {left, right, goLeft ? stubs : 0, goLeft ? 0 : stubs}[what];
    }

    private int totalAt(List<Integer> heads, int knee, int what) {
        int sum = 0;
        int aside = 0;
        int worst = -2;
        int most = -1;
        int kneed = 0;
        for (int g = 0; g < groups().size(); g++) {
            Beamed b = beamed(groups().get(g), heads, knee);
            kneed += b.kneed ? 1 : 0;
            if (b.best() == null) {
                aside++;
            } else {
                sum += b.best().ugliness;
                if (b.best().ugliness > most) {
                    most = b.best().ugliness;
                    worst = g;
                }
            }
        }
        return new int[] {sum, aside, worst, kneed}[what];
    }

    int total(int what) {
        return what < 0 || what > 3 ? NONE : totalAt(sheet.heads, sheet.knee, what);
    }

    private Setting bestIfPut(int i, int position) {
        List<Integer> heads = new ArrayList<>(sheet.heads);
        heads.set(i, position);
        return beamed(groups().get(groupOf(i)), heads, sheet.knee).best();
    }

    int ifPut(int i, int position, int what) {
        if (!hasElement(i) || groupOf(i) < 0 || Math.abs((long) position) > 12 || what < 0 || what > 5) {
            return NOTHING;
        }
        Setting s = bestIfPut(i, position);
        return s == null ? NOTHING : s.tell(what);
    }

    int wish(int i) {
        if (!hasElement(i) || groupOf(i) < 0) {
            return NOTHING;
        }
        int own = sheet.heads.get(i);
        Integer found = null;
        for (int p = -12; p <= 12; p++) {
            Setting s = bestIfPut(i, p);
            if (s != null) {
                int least = found == null ? Integer.MAX_VALUE : bestIfPut(i, found).ugliness;
                boolean nearer = found != null && Math.abs(p - own) < Math.abs(found - own);
                if (s.ugliness < least || s.ugliness == least && nearer) {
                    found = p;
                }
            }
        }
        return found == null ? NOTHING : found;
    }

    private List<Integer> shifted(int t) {
        List<Integer> heads = new ArrayList<>();
        for (int i = 0; i < sheet.heads.size(); i++) {
            int head = hasNote(i) ? sheet.heads.get(i) + t : 0;
            if (head < -12 || head > 12) {
                return null;
            }
            heads.add(head);
        }
        return heads;
    }

    int ifShifted(int t, int what) {
        if (t < -12 || t > 12 || what < 0 || what > 3 || shifted(t) == null) {
            return NONE;
        }
        return totalAt(shifted(t), sheet.knee, what);
    }

    int shift() {
        if (groups().isEmpty()) {
            return NOTHING;
        }
        List<Integer> able = new ArrayList<>();
        for (int t = -12; t <= 12; t++) {
            if (shifted(t) != null) {
                able.add(t);
            }
        }
        able.sort(Comparator.comparingInt((Integer t) -> ifShifted(t, 1))
                .thenComparingInt(t -> ifShifted(t, 0))
                .thenComparingInt(t -> Math.abs(t))
                .thenComparingInt(t -> t));
        return able.get(0);
    }

    int mirrored(int g) {
        if (!hasGroup(g)) {
            return NONE;
        }
        Setting s = now(g).best();
        List<Integer> heads = new ArrayList<>();
        for (int head : sheet.heads) {
            heads.add(-head);
        }
        Setting t = beamed(groups().get(g), heads, sheet.knee).best();
        if (s == null || t == null) {
            return -2;
        }
        return s.l + t.l == 0 && s.r + t.r == 0 ? 1 : 0;
    }

    int ifKnee(int n, int what) {
        return n < 4 || n > 24 || what < 0 || what > 3 ? NONE : totalAt(sheet.heads, n, what);
    }

    int ifParts(int n) {
        if (n < 1 || n > 12) {
            return NONE;
        }
        List<Integer> lengths = new ArrayList<>();
        for (int left = sheet.beats; left > 0; left -= n) {
            lengths.add(Math.min(n, left));
        }
        return sheet.groups(lengths).size();
    }

    int alone(int what) {
        List<Integer> found = new ArrayList<>();
        for (int i = 0; i < sheet.elements.size(); i++) {
            if (sheet.elements.get(i).beams() > 0 && groupOf(i) < 0) {
                found.add(i);
            }
        }
        return what == 0 ? found.size() : what == 1 ? (found.isEmpty() ? -2 : found.get(0)) : NONE;
    }

    private List<int[]> stretchesOf(int g, int k) {
        List<int[]> all = new ArrayList<>();
        int[] open = null;
        for (int i : groups().get(g)) {
            if (open != null) {
                open[1] = i;
            }
            if (beams(i, 1) >= k) {
                if (open == null) {
                    open = new int[] {i, i};
                }
            } else if (open != null) {
                all.add(open);
                open = null;
            }
        }
        return all;
    }

    int stretches(int g, int k) {
        return !hasGroup(g) || k < 1 || k > 3 ? NONE : stretchesOf(g, k).size();
    }

    int stretch(int g, int k, int i, int what) {
        if (!hasGroup(g) || k < 1 || k > 3 || i < 0 || what < 0 || what > 2) {
            return NONE;
        }
        if (i >= stretchesOf(g, k).size()) {
            return -2;
        }
        int[] found = stretchesOf(g, k).get(i);
        int wide = sheet.elements.get(found[1]).x - sheet.elements.get(found[0]).x;
        return what == 2 ? wide : found[what];
    }

    int level(int g, int what) {
        if (!hasGroup(g) || what < 0 || what > 2) {
            return NOTHING;
        }
        for (Setting s : now(g).allowed) {
            if (s.l == s.r) {
                return new int[] {s.l, s.ugliness, s.ugliness - now(g).best().ugliness}[what];
            }
        }
        return NOTHING;
    }

    private int sideOfCut(List<Integer> notes) {
        if (notes.size() == 1) {
            return 0;
        }
        Setting s = beamed(notes, sheet.heads, sheet.knee).best();
        return s == null ? -2 : s.ugliness;
    }

    int ifCut(int g, int k) {
        if (!hasGroup(g) || k < 1 || k >= groups().get(g).size()) {
            return NONE;
        }
        List<Integer> notes = groups().get(g);
        int one = sideOfCut(notes.subList(0, k));
        int other = sideOfCut(notes.subList(k, notes.size()));
        return one < 0 || other < 0 ? -2 : one + other;
    }

    int cut(int g) {
        if (!hasGroup(g)) {
            return NONE;
        }
        int found = -2;
        for (int k = groups().get(g).size() - 1; k > 0; k--) {
            if (ifCut(g, k) >= 0 && (found < 0 || ifCut(g, k) <= ifCut(g, found))) {
                found = k;
            }
        }
        return found;
    }

    private record Chain(int ugliness, int rank, Chain rest) {
        static boolean isBetter(Chain a, Chain b) {
            if (a.ugliness != b.ugliness) {
                return a.ugliness < b.ugliness;
            }
            Chain x = a;
            Chain y = b;
            while (x != null && x.rank == y.rank) {
                x = x.rest;
                y = y.rest;
            }
            return x != null && x.rank < y.rank;
        }
    }

    /** The ranks of the SMOOTH SETTINGS and their UGLINESS; null: it can't be. */
    private Chain chain(int n) {
        List<List<Integer>> all = groups();
        Chain[] ends = null;
        Beamed next = null;
        for (int g = all.size() - 1; g >= 0; g--) {
            Beamed b = now(g);
            Chain[] made = new Chain[b.allowed.size()];
            for (int s = 0; s < made.length; s++) {
                Setting own = b.allowed.get(s);
                if (ends == null) {
                    made[s] = new Chain(own.ugliness, s, null);
                    continue;
                }
                Chain best = null;
                for (int t = 0; t < ends.length; t++) {
                    if (ends[t] != null && Math.abs(own.r - next.allowed.get(t).l) <= n
                            && (best == null || Chain.isBetter(ends[t], best))) {
                        best = ends[t];
                    }
                }
                made[s] = best == null ? null : new Chain(own.ugliness + best.ugliness, s, best);
            }
            ends = made;
            next = b;
        }
        Chain best = null;
        for (Chain c : ends == null ? new Chain[0] : ends) {
            if (c != null && (best == null || Chain.isBetter(c, best))) {
                best = c;
            }
        }
        return best;
    }

    int smooth(int n, int what) {
        if (n < 0 || n > 120 || what < 0 || what > 1) {
            return NONE;
        }
        if (groups().isEmpty()) {
            return 0;
        }
        Chain c = chain(n);
        return c == null ? -2 : what == 0 ? c.ugliness : c.ugliness - total(0);
    }

    int smoothed(int n, int g, int what) {
        if (n < 0 || n > 120 || !hasGroup(g) || what < 0 || what > 3) {
            return NOTHING;
        }
        Chain c = chain(n);
        for (int k = 0; k < g && c != null; k++) {
            c = c.rest;
        }
        if (c == null) {
            return NOTHING;
        }
        return what == 3 ? c.rank : now(g).allowed.get(c.rank).tell(what);
    }

    int single(int i, int what) {
        if (!hasNote(i) || groupOf(i) >= 0 || what < 0 || what > 2) {
            return NOTHING;
        }
        int p = sheet.heads.get(i);
        int way = p < 0 ? 1 : -1;
        int length = Beamed.idealOf(Math.max(1, sheet.elements.get(i).beams()), way, p);
        return new int[] {way, length, 2 * p + way * length}[what];
    }

    int extreme(int g, int what) {
        if (!hasGroup(g) || what < 0 || what > 1) {
            return NONE;
        }
        Beamed b = now(g);
        Setting s = b.best();
        if (s == null) {
            return -2;
        }
        int found = b.n - 1;
        for (int i = b.n - 1; i >= 0; i--) {
            long own = b.length(s.l, s.r, i);
            long other = b.length(s.l, s.r, found);
            if (what == 0 ? own <= other : own >= other) {
                found = i;
            }
        }
        return groups().get(g).get(found);
    }

    int count(int what) {
        TreeSet<Integer> measures = new TreeSet<>();
        int notes = 0;
        for (Element e : sheet.elements) {
            measures.add(e.time / sheet.measure());
            notes += e.note ? 1 : 0;
        }
        return switch (what) {
            case 0 -> sheet.lines;
            case 1 -> sheet.elements.size();
            case 2 -> notes;
            case 3 -> groups().size();
            case 4 -> measures.size();
            case 5 -> sheet.beats;
            case 6 -> sheet.unit;
            case 7 -> sheet.knee;
            case 8 -> sheet.parts().size();
            case 9 -> puts.size();
            case 10 -> tape.size();
            case 11 -> sheet.wide.get(4);
            case 12 -> sheet.wide.get(8);
            case 13 -> sheet.wide.get(16);
            case 14 -> sheet.wide.get(32);
            default -> NONE;
        };
    }
}
