import java.util.NoSuchElementException;

/** A setter of beams; the words in capitals are those of the document. */
public final class BeamSetter {
    public static final int NONE = -1;
    public static final int NOTHING = -1000000;

    private static final int NOT_THERE = -2;
    private static final int NOT_ON_STAFF = -3;
    private static final int FARTHEST = 12;
    private static final int LEAST_KNEE = 4;
    private static final int MOST_KNEE = 24;
    private static final int MOST_BEATS = 12;
    private static final int MOST_BEAMS = 3;
    private static final int WIDEST_STEP = 120;
    private static final int MOST_INT = 0x7fffffff;
    private static final long MOST_LONG = 0x7fffffffffffffffL;

    private final Tape tape;
    private final Reader reader;
    private final History history;
    private final Group group;
    private final Totals totals;
    private final Smoother smoother;
    /** POSITIONS that are only asked about. */
    private final int[] tried;
    private Piece piece;
    /** Where the next TEXT is read to, so that one with a FAULT leaves the piece as it is. */
    private Piece spare;

    public BeamSetter() {
        tape = new Tape();
        history = new History();
        group = new Group();
        totals = new Totals();
        smoother = new Smoother();
        tried = new int[Piece.MOST];
        piece = new Piece();
        spare = new Piece();
        reader = new Reader(tape.bytes, spare);
    }

    // ---- the TAPE and the TEXT

    public int feed(int a, int b, int c, int d, int e) {
        if (!tape.hasRoomFor(20)) {
            return NONE;
        }
        tape.append(a);
        tape.append(b);
        tape.append(c);
        tape.append(d);
        tape.append(e);
        return tape.size;
    }

    public int text(int n) {
        if (n < 0 || n > tape.size) {
            return NOT_THERE;
        }
        tape.size = 0;
        if (!reader.read(n, spare)) {
            return NONE;
        }
        Piece old = piece;
        piece = spare;
        spare = old;
        history.size = 0;
        return piece.lines;
    }

    public int fault(int what) {
        if (what == 0) {
            return reader.fault;
        }
        return what == 1 ? reader.place : NONE;
    }

    // ---- ELEMENTS

    public int element(int i, int what) throws IndexOutOfBoundsException, NoSuchElementException {
        if (!isElement(i)) {
            throw new IndexOutOfBoundsException("no such ELEMENT");
        }
        switch (what) {
            case 0: return piece.kinds[i];
            case 1: return piece.sounds[i] ? 1 : 0;
            case 2: return piece.timeWithin(i);
            case 3: return piece.measureOf(i);
            case 4: return piece.partOf(i, 0);
            case 5: return piece.xs[i];
            case 6: return isGrouped(i) ? piece.groupOf[i] : NOT_THERE;
            case 7: return piece.beamsOf(i);
            default: throw new NoSuchElementException("no such what");
        }
    }

    public int position(int i) {
        return isNote(i) ? piece.heads[i] : NOTHING;
    }

    public int direction(int i) {
        if (!isElement(i)) {
            return NOTHING;
        }
        if (!isGrouped(i)) {
            return 0;
        }
        return group.ways[loadAround(i)];
    }

    public int put(int i, int position) {
        if (!isNote(i) || !isPosition(position)) {
            return NOTHING;
        }
        int before = piece.heads[i];
        history.remember(i, before);
        piece.heads[i] = position;
        return before;
    }

    public int undo() {
        if (history.size == 0) {
            return NONE;
        }
        int i = history.latestElement();
        if (isElement(i)) {
            piece.heads[i] = history.latestPosition();
        }
        history.forgetLatest();
        return history.size;
    }

    // ---- GROUPS

    public int group(int g, int what) throws IndexOutOfBoundsException, NoSuchElementException {
        if (!isGroup(g)) {
            throw new IndexOutOfBoundsException("no such GROUP");
        }
        load(g);
        switch (what) {
            case 0: return piece.firsts[g];
            case 1: return group.size;
            case 2: return group.kneed ? 1 : 0;
            case 3: return group.span;
            case 4: return group.mostBeams();
            case 5: return group.gather();
            case 6: return group.howManyUp();
            default: throw new NoSuchElementException("no such what");
        }
    }

    public int want(int g) {
        if (!isGroup(g)) {
            return NOTHING;
        }
        load(g);
        return group.wanted;
    }

    public int ideal(int i) {
        if (!isElement(i)) {
            return NONE;
        }
        if (!isGrouped(i)) {
            return NOT_THERE;
        }
        return group.ideals[loadAround(i)];
    }

    public int ugliness(int g, int l, int r, int what) {
        if (!isGroup(g) || !Group.isSetting(l, r) || what < 0 || what > 3) {
            return NONE;
        }
        load(g);
        return group.allows(l, r) ? group.tellSetting(l, r, what + 2) : NOT_THERE;
    }

    public int best(int g, int what) {
        if (!isGroup(g)) {
            return NOTHING;
        }
        load(g);
        return tellBest(what);
    }

    public int ranked(int g, int k, int what) {
        if (!isGroup(g) || k < 0 || what < 0 || what > 5) {
            return NOTHING;
        }
        load(g);
        if (k >= group.gather()) {
            return NOTHING;
        }
        group.sortKeys();
        return group.tell(group.keys[k], what);
    }

    public int rank(int g, int l, int r) {
        if (!isGroup(g) || !Group.isSetting(l, r)) {
            return NONE;
        }
        load(g);
        return group.allows(l, r) ? group.rankOf(group.keyOfSetting(l, r)) : NOT_THERE;
    }

    public int stem(int i, int what) {
        if (!isGrouped(i) || what < 0 || what > 3) {
            return NOTHING;
        }
        int at = loadAround(i);
        long key = group.findBest();
        if (key == Group.NO_KEY) {
            return NOTHING;
        }
        int above = what < 2 ? group.lengthOf(key, at) : group.heightOf(key, at);
        int shared = greatestDivisor(Math.abs(above), group.span);
        return (what % 2 == 0 ? above : group.span) / Math.max(1, shared);
    }

    public int touch(int g, int end, int k) {
        if (!isGroup(g) || end < 0 || end > 1 || k < 0) {
            return NONE;
        }
        load(g);
        if (k >= group.beamsAtEnd(end)) {
            return NONE;
        }
        long key = group.findBest();
        if (key == Group.NO_KEY) {
            return NOT_THERE;
        }
        int height = group.beamHeight(end, end == 0 ? group.leftOf(key) : group.rightOf(key), k);
        return Group.isOnStaff(height) ? Math.floorMod(height, 4) : NOT_ON_STAFF;
    }

    public int beams(int i, int what) {
        if (!isElement(i) || what < 0 || what > 3) {
            return NONE;
        }
        if (!isGrouped(i)) {
            return NOT_THERE;
        }
        switch (what) {
            case 0: return piece.beamsLeft(i);
            case 1: return piece.beamsRight(i);
            case 2: return piece.stubsGoLeft(i) ? piece.stubsOf(i) : 0;
            default: return piece.stubsGoLeft(i) ? 0 : piece.stubsOf(i);
        }
    }

    public int total(int what) {
        if (!Totals.isWhat(what)) {
            return NONE;
        }
        totals.take(piece, piece.heads, piece.knee, group);
        return totals.tell(what);
    }

    // ---- what would be

    public int ifPut(int i, int position, int what) {
        if (!isGrouped(i) || !isPosition(position)) {
            return NOTHING;
        }
        tryShifted(0);
        tried[i] = position;
        loadTried(piece.groupOf[i]);
        return tellBest(what);
    }

    public int wish(int i) {
        if (!isGrouped(i)) {
            return NOTHING;
        }
        tryShifted(0);
        int own = piece.heads[i];
        int wished = NOTHING;
        int least = MOST_INT;
        // From near to far, the lower one first: so a later one must be truly better.
        for (int step = 0; step <= 4 * FARTHEST + 1; step++) {
            int position = own + outward(step);
            if (isPosition(position)) {
                tried[i] = position;
                loadTried(piece.groupOf[i]);
                long key = group.findBest();
                if (key != Group.NO_KEY && Group.uglinessOf(key) < least) {
                    least = Group.uglinessOf(key);
                    wished = position;
                }
            }
        }
        return wished;
    }

    public int ifShifted(int t, int what) {
        if (!isPosition(t) || !Totals.isWhat(what) || !tryShifted(t)) {
            return NONE;
        }
        totals.take(piece, tried, piece.knee, group);
        return totals.tell(what);
    }

    public int shift() {
        if (piece.groups == 0) {
            return NOTHING;
        }
        int found = 0;
        long least = MOST_LONG;
        for (int step = 0; step <= 2 * FARTHEST; step++) {
            if (tryShifted(outward(step))) {
                totals.take(piece, tried, piece.knee, group);
                long worth = totals.asideThenUgliness();
                if (worth < least) {
                    least = worth;
                    found = outward(step);
                }
            }
        }
        return found;
    }

    public int mirrored(int g) {
        if (!isGroup(g)) {
            return NONE;
        }
        load(g);
        long key = group.findBest();
        if (key == Group.NO_KEY) {
            return NOT_THERE;
        }
        int l = group.leftOf(key);
        int r = group.rightOf(key);
        for (int i = 0; i < piece.size; i++) {
            tried[i] = -piece.heads[i];
        }
        loadTried(g);
        key = group.findBest();
        if (key == Group.NO_KEY) {
            return NOT_THERE;
        }
        return group.leftOf(key) == -l && group.rightOf(key) == -r ? 1 : 0;
    }

    public int ifKnee(int n, int what) {
        if (n < LEAST_KNEE || n > MOST_KNEE || !Totals.isWhat(what)) {
            return NONE;
        }
        totals.take(piece, piece.heads, n, group);
        return totals.tell(what);
    }

    public int ifParts(int n) {
        return n < 1 || n > MOST_BEATS ? NONE : piece.countGroups(n);
    }

    // ---- single notes, STRETCHES

    public int alone(int what) {
        if (what < 0 || what > 1) {
            return NONE;
        }
        int many = 0;
        int first = NOT_THERE;
        for (int i = 0; i < piece.size; i++) {
            if (piece.beamsOf(i) > 0 && !isGrouped(i)) {
                many++;
                first = many == 1 ? i : first;
            }
        }
        return what == 0 ? many : first;
    }

    public int stretches(int g, int k) {
        if (!isGroup(g) || k < 1 || k > MOST_BEAMS) {
            return NONE;
        }
        int many = 0;
        for (int i = piece.firsts[g]; i <= piece.lastOf(g); i++) {
            many += piece.startsStretch(i, k) ? 1 : 0;
        }
        return many;
    }

    public int stretch(int g, int k, int i, int what) {
        if (!isGroup(g) || k < 1 || k > MOST_BEAMS || i < 0 || what < 0 || what > 2) {
            return NONE;
        }
        int many = 0;
        for (int at = piece.firsts[g]; at <= piece.lastOf(g); at++) {
            if (piece.startsStretch(at, k)) {
                if (many == i) {
                    return tellStretch(at, piece.stretchEnd(at, k), what);
                }
                many++;
            }
        }
        return NOT_THERE;
    }

    // ---- other settings

    public int level(int g, int what) {
        if (!isGroup(g) || what < 0 || what > 2) {
            return NOTHING;
        }
        load(g);
        long key = group.findLevel();
        if (key == Group.NO_KEY) {
            return NOTHING;
        }
        switch (what) {
            case 0: return group.leftOf(key);
            case 1: return Group.uglinessOf(key);
            default: return Group.uglinessOf(key) - Group.uglinessOf(group.findBest());
        }
    }

    public int ifCut(int g, int k) {
        if (!isGroup(g) || k < 1 || k >= piece.lengths[g]) {
            return NONE;
        }
        return uglinessOfCut(g, k);
    }

    public int cut(int g) {
        if (!isGroup(g)) {
            return NONE;
        }
        int found = NOT_THERE;
        int least = MOST_INT;
        for (int k = 1; k < piece.lengths[g]; k++) {
            int ugly = uglinessOfCut(g, k);
            if (ugly != NOT_THERE && ugly < least) {
                least = ugly;
                found = k;
            }
        }
        return found;
    }

    public int smooth(int n, int what) {
        if (n < 0 || n > WIDEST_STEP || what < 0 || what > 1) {
            return NONE;
        }
        if (!smoother.weigh(piece, group, n)) {
            return NOT_THERE;
        }
        if (what == 0) {
            return smoother.together;
        }
        totals.take(piece, piece.heads, piece.knee, group);
        return smoother.together - totals.ugliness;
    }

    public int smoothed(int n, int g, int what) {
        if (n < 0 || n > WIDEST_STEP || !isGroup(g) || what < 0 || what > 3) {
            return NOTHING;
        }
        if (!smoother.weigh(piece, group, n)) {
            return NOTHING;
        }
        long key = smoother.choose(piece, group, n, g);
        if (key == Group.NO_KEY) {
            return NOTHING;
        }
        return what == 3 ? group.rankOf(key) : group.tell(key, what);
    }

    public int single(int i, int what) {
        if (!isNote(i) || isGrouped(i) || what < 0 || what > 2) {
            return NOTHING;
        }
        int head = piece.heads[i];
        int way = head >= 0 ? -1 : 1;
        int length = Group.idealLength(piece.beamsOf(i), way, head);
        switch (what) {
            case 0: return way;
            case 1: return length;
            default: return 2 * head + way * length;
        }
    }

    public int extreme(int g, int what) {
        if (!isGroup(g) || what < 0 || what > 1) {
            return NONE;
        }
        load(g);
        long key = group.findBest();
        if (key == Group.NO_KEY) {
            return NOT_THERE;
        }
        int found = 0;
        for (int at = 1; at < group.size; at++) {
            int more = group.lengthOf(key, at) - group.lengthOf(key, found);
            if (what == 0 ? more < 0 : more > 0) {
                found = at;
            }
        }
        return piece.firsts[g] + found;
    }

    public int count(int what) {
        switch (what) {
            case 0: return piece.lines;
            case 1: return piece.size;
            case 2: return piece.countNotes();
            case 3: return piece.groups;
            case 4: return piece.countMeasures();
            case 5: return piece.beats;
            case 6: return piece.unit;
            case 7: return piece.knee;
            case 8: return piece.partCount;
            case 9: return history.size;
            case 10: return tape.size;
            case 11: return piece.widths[0];
            case 12: return piece.widths[1];
            case 13: return piece.widths[2];
            case 14: return piece.widths[3];
            default: return NONE;
        }
    }

    // ---- helpers of the face

    private boolean isElement(int i) {
        return i >= 0 && i < piece.size;
    }

    private boolean isNote(int i) {
        return isElement(i) && piece.sounds[i];
    }

    private boolean isGrouped(int i) {
        return isElement(i) && piece.groupOf[i] >= 0;
    }

    private boolean isGroup(int g) {
        return g >= 0 && g < piece.groups;
    }

    private static boolean isPosition(int position) {
        return position >= -FARTHEST && position <= FARTHEST;
    }

    /** 0, -1, 1, -2, 2 .. by step 0, 1, 2, 3, 4 .. */
    private static int outward(int step) {
        return step % 2 == 0 ? step / 2 : -(step + 1) / 2;
    }

    private void load(int g) {
        group.load(piece, piece.heads, piece.firsts[g], piece.lengths[g], piece.knee);
    }

    private void loadTried(int g) {
        group.load(piece, tried, piece.firsts[g], piece.lengths[g], piece.knee);
    }

    /** Loads the GROUP of an ELEMENT that is of one: the how many-th NOTE of it that is. */
    private int loadAround(int i) {
        int g = piece.groupOf[i];
        load(g);
        return i - piece.firsts[g];
    }

    /** Tries all notes t higher; false: one would be beyond. */
    private boolean tryShifted(int t) {
        for (int i = 0; i < piece.size; i++) {
            tried[i] = piece.sounds[i] ? piece.heads[i] + t : 0;
            if (!isPosition(tried[i])) {
                return false;
            }
        }
        return true;
    }

    private int tellBest(int what) {
        if (what < 0 || what > 5) {
            return NOTHING;
        }
        long key = group.findBest();
        return key == Group.NO_KEY ? NOTHING : group.tell(key, what);
    }

    private int tellStretch(int first, int last, int what) {
        switch (what) {
            case 0: return first;
            case 1: return last;
            default: return piece.xs[last] - piece.xs[first];
        }
    }

    private int uglinessOfCut(int g, int k) {
        int ahead = uglinessOfNotes(piece.firsts[g], k);
        if (ahead == NOT_THERE) {
            return NOT_THERE;
        }
        int behind = uglinessOfNotes(piece.firsts[g] + k, piece.lengths[g] - k);
        return behind == NOT_THERE ? NOT_THERE : ahead + behind;
    }

    private int uglinessOfNotes(int first, int many) {
        if (many == 1) {
            return 0;
        }
        group.load(piece, piece.heads, first, many, piece.knee);
        long key = group.findBest();
        return key == Group.NO_KEY ? NOT_THERE : Group.uglinessOf(key);
    }

    private static int greatestDivisor(int a, int b) {
        int x = a;
        int y = b;
        // Each step makes the pair smaller; numbers of 31 bits need fewer than 50 of them.
        for (int step = 0; step < 100 && y != 0; step++) {
            int left = x % y;
            x = y;
            y = left;
        }
        return x;
    }

    /** The bytes that have been fed. */
    private static final class Tape {
        private static final int MOST = 900;

        final int[] bytes = new int[MOST];
        int size;

        boolean hasRoomFor(int many) {
            return size + many <= MOST;
        }

        void append(int number) {
            for (int shift = 24; shift >= 0 && size < MOST; shift -= 8) {
                bytes[size] = (number >> shift) & 255;
                size++;
            }
        }
    }

    /** The latest notes that were PUT, and where they were. */
    private static final class History {
        private static final int MOST = 20;

        private final int[] who = new int[MOST];
        private final int[] where = new int[MOST];
        int size;

        void remember(int i, int position) {
            if (size == MOST) {
                System.arraycopy(who, 1, who, 0, MOST - 1);
                System.arraycopy(where, 1, where, 0, MOST - 1);
                size--;
            }
            who[size] = i;
            where[size] = position;
            size++;
        }

        int latestElement() {
            return size > 0 ? who[size - 1] : NONE;
        }

        int latestPosition() {
            return size > 0 ? where[size - 1] : 0;
        }

        void forgetLatest() {
            size = Math.max(0, size - 1);
        }
    }

    /** What a TEXT tells: the metre, the ELEMENTS, the GROUPS that these make. */
    private static final class Piece {
        static final int MOST = 64;

        int lines;
        int beats;
        int unit;
        int knee;
        int partCount;
        final int[] parts = new int[MOST_BEATS];
        /** By BEAMS: of kind 4, 8, 16, 32. */
        final int[] widths = new int[MOST_BEAMS + 1];
        int size;
        final int[] kinds = new int[MOST];
        final boolean[] sounds = new boolean[MOST];
        final int[] heads = new int[MOST];
        final int[] times = new int[MOST];
        final int[] xs = new int[MOST];
        /** NONE: of no GROUP. */
        final int[] groupOf = new int[MOST];
        int groups;
        final int[] firsts = new int[MOST / 2];
        final int[] lengths = new int[MOST / 2];

        Piece() {
            clear();
        }

        void clear() {
            lines = 0;
            size = 0;
            groups = 0;
            knee = 9;
            widths[0] = 24;
            widths[1] = 16;
            widths[2] = 12;
            widths[3] = 9;
            setMetre(4, 4);
        }

        void setMetre(int beats, int unit) {
            this.beats = Math.min(beats, MOST_BEATS);
            this.unit = unit;
            int each = unit == 8 && beats % 3 == 0 ? 3 : 1;
            partCount = 0;
            for (int beat = 0; beat < this.beats; beat += each) {
                parts[partCount] = each;
                partCount++;
            }
        }

        static boolean isKind(int kind) {
            return kind == 4 || kind == 8 || kind == 16 || kind == 32;
        }

        static int beamsOfKind(int kind) {
            switch (kind) {
                case 8: return 1;
                case 16: return 2;
                case 32: return 3;
                default: return 0;
            }
        }

        static int longOfKind(int kind) {
            return 8 >> beamsOfKind(kind);
        }

        private int beatLong() {
            switch (unit) {
                case 2: return 16;
                case 8: return 4;
                default: return 8;
            }
        }

        private int measureLong() {
            return Math.max(1, beats * beatLong());
        }

        private int timeOfNext() {
            return size == 0 ? 0 : times[size - 1] + longOfKind(kinds[size - 1]);
        }

        private int xOfNext() {
            return size == 0 ? 0 : xs[size - 1] + widths[beamsOfKind(kinds[size - 1])];
        }

        /** Whether the next ELEMENT, of this kind, would end within its MEASURE. */
        boolean fits(int kind) {
            return timeOfNext() % measureLong() + longOfKind(kind) <= measureLong();
        }

        void add(boolean sound, int kind, int head) {
            if (size >= MOST) {
                return;
            }
            int time = timeOfNext();
            int x = xOfNext();
            kinds[size] = kind;
            sounds[size] = sound;
            heads[size] = head;
            times[size] = time;
            xs[size] = x;
            groupOf[size] = NONE;
            size++;
        }

        int timeWithin(int i) {
            return times[i] % measureLong();
        }

        int measureOf(int i) {
            return times[i] / measureLong();
        }

        /** The PART of an ELEMENT, PARTS being so many BEATS long each (0: as they are). */
        int partOf(int i, int each) {
            int beat = timeWithin(i) / beatLong();
            if (each > 0) {
                return beat / each;
            }
            int part = 0;
            int behind = parts[0];
            while (part < partCount - 1 && beat >= behind) {
                part++;
                behind += parts[part];
            }
            return part;
        }

        int beamsOf(int i) {
            return sounds[i] ? beamsOfKind(kinds[i]) : 0;
        }

        /** How many notes stand together from i on, as a GROUP would hold them. */
        private int runFrom(int i, int each) {
            int many = 0;
            while (i + many < size && beamsOf(i + many) > 0
                    && measureOf(i + many) == measureOf(i)
                    && partOf(i + many, each) == partOf(i, each)) {
                many++;
            }
            return many;
        }

        int countGroups(int each) {
            int many = 0;
            for (int i = 0; i < size; i++) {
                int run = runFrom(i, each);
                if (run > 1) {
                    many++;
                    i += run - 1;
                }
            }
            return many;
        }

        void findGroups() {
            groups = 0;
            for (int i = 0; i < size; i++) {
                int run = runFrom(i, 0);
                if (run > 1 && groups < firsts.length) {
                    firsts[groups] = i;
                    lengths[groups] = run;
                    for (int at = i; at < i + run; at++) {
                        groupOf[at] = groups;
                    }
                    groups++;
                    i += run - 1;
                }
            }
        }

        int lastOf(int g) {
            return firsts[g] + lengths[g] - 1;
        }

        private boolean areTogether(int i, int k) {
            return i >= 0 && k >= 0 && i < size && k < size && groupOf[i] >= 0 && groupOf[i] == groupOf[k];
        }

        int beamsLeft(int i) {
            return areTogether(i, i - 1) ? Math.min(beamsOf(i), beamsOf(i - 1)) : 0;
        }

        int beamsRight(int i) {
            return areTogether(i, i + 1) ? Math.min(beamsOf(i), beamsOf(i + 1)) : 0;
        }

        int stubsOf(int i) {
            return beamsOf(i) - Math.max(beamsLeft(i), beamsRight(i));
        }

        boolean stubsGoLeft(int i) {
            if (!areTogether(i, i - 1)) {
                return false;
            }
            if (!areTogether(i, i + 1)) {
                return true;
            }
            int more = beamsOf(i - 1) - beamsOf(i + 1);
            if (more != 0) {
                return more > 0;
            }
            return timeWithin(i) / Math.max(1, longOfKind(kinds[i])) % 2 == 1;
        }

        boolean startsStretch(int i, int k) {
            return beamsRight(i) >= k && beamsLeft(i) < k;
        }

        int stretchEnd(int i, int k) {
            int last = i;
            while (last < size && beamsRight(last) >= k) {
                last++;
            }
            return Math.min(last, size - 1);
        }

        int countNotes() {
            int many = 0;
            for (int i = 0; i < size; i++) {
                many += sounds[i] ? 1 : 0;
            }
            return many;
        }

        /** No ELEMENT goes beyond its MEASURE, so one begins in each up to that of the last one. */
        int countMeasures() {
            return size == 0 ? 0 : measureOf(size - 1) + 1;
        }
    }

    /** Reads a TEXT, up to its first FAULT. */
    private static final class Reader {
        private static final int NO_WORD = -1;
        private static final int METRE = 0;
        private static final int SPLIT = 1;
        private static final int KNEE = 2;
        private static final int WIDE = 3;
        private static final int NOTE = 4;
        private static final int REST = 5;
        private static final int MOST_PARTS = 6;
        private static final int TOO_GREAT = 100000;

        int fault;
        int place = NONE;
        private final int[] bytes;
        private int length;
        private int at;
        /** The number read last, and its place. */
        private int value;
        private int start;
        private Piece piece;
        /** Of METRE, SPLIT, KNEE. */
        private final boolean[] told = new boolean[3];
        private final boolean[] toldWide = new boolean[MOST_BEAMS + 1];

        Reader(int[] bytes, Piece piece) {
            this.bytes = bytes;
            this.piece = piece;
        }

        boolean read(int many, Piece into) {
            length = Math.min(many, bytes.length);
            at = 0;
            fault = 0;
            place = NONE;
            piece = into;
            piece.clear();
            forgetTold();
            skipBlanks();
            // A LINE takes a byte at least, so there are no more LINES than bytes.
            for (int line = 0; line < length && at < length; line++) {
                if (!readLine()) {
                    return false;
                }
                piece.lines++;
                skipBlanks();
            }
            piece.findGroups();
            return true;
        }

        private void forgetTold() {
            for (int i = 0; i < told.length; i++) {
                told[i] = false;
            }
            for (int i = 0; i < toldWide.length; i++) {
                toldWide[i] = false;
            }
        }

        private boolean fail(int number, int where) {
            fault = number;
            place = where;
            return false;
        }

        private int here() {
            return at < length ? bytes[at] : NONE;
        }

        private boolean isDigitHere() {
            return at < length && bytes[at] >= '0' && bytes[at] <= '9';
        }

        private boolean isLetterHere() {
            return at < length && bytes[at] >= 'a' && bytes[at] <= 'z';
        }

        private void skipBlanks() {
            while (at < length && (bytes[at] == 10 || bytes[at] == 32)) {
                at++;
            }
        }

        private boolean readLine() {
            int from = at;
            int word = takeWord();
            if (word == NO_WORD || isTooLate(word)) {
                return fail(1, from);
            }
            if (word <= KNEE) {
                if (told[word]) {
                    return fail(3, from);
                }
                told[word] = true;
            }
            if (word >= NOTE && piece.size >= Piece.MOST) {
                return fail(4, from);
            }
            boolean right;
            switch (word) {
                case METRE: right = readMetre(); break;
                case SPLIT: right = readSplit(); break;
                case KNEE: right = readKnee(); break;
                case WIDE: right = readWide(); break;
                default: right = readElement(word == NOTE); break;
            }
            return right && takeEnd();
        }

        private boolean isTooLate(int word) {
            return word < NOTE && (piece.size > 0 || word == METRE && told[SPLIT]);
        }

        private int takeWord() {
            int from = at;
            while (at < length && isLetterHere()) {
                at++;
            }
            if (spells(from, "metre")) {
                return METRE;
            }
            if (spells(from, "split")) {
                return SPLIT;
            }
            if (spells(from, "knee")) {
                return KNEE;
            }
            if (spells(from, "wide")) {
                return WIDE;
            }
            if (spells(from, "note")) {
                return NOTE;
            }
            return spells(from, "rest") ? REST : NO_WORD;
        }

        private boolean spells(int from, String word) {
            if (at - from != word.length()) {
                return false;
            }
            for (int i = 0; i < word.length(); i++) {
                if (bytes[from + i] != word.charAt(i)) {
                    return false;
                }
            }
            return true;
        }

        private boolean takeEnd() {
            skipBlanks();
            if (here() != ';') {
                return fail(1, at);
            }
            at++;
            return true;
        }

        private boolean takeNumber() {
            skipBlanks();
            start = at;
            if (!isDigitHere()) {
                return fail(1, at);
            }
            value = 0;
            while (at < length && isDigitHere()) {
                value = Math.min(TOO_GREAT, value * 10 + bytes[at] - '0');
                at++;
            }
            return true;
        }

        private boolean takeNumberWithin(int least, int most) {
            if (!takeNumber()) {
                return false;
            }
            return value >= least && value <= most || fail(2, start);
        }

        private boolean takeKind() {
            if (!takeNumber()) {
                return false;
            }
            return Piece.isKind(value) || fail(2, start);
        }

        private boolean takePosition() {
            skipBlanks();
            int from = at;
            boolean below = here() == '-';
            if (below) {
                at++;
            }
            if (!takeNumber()) {
                return false;
            }
            if (value > FARTHEST) {
                return fail(2, from);
            }
            value = below ? -value : value;
            return true;
        }

        private boolean readMetre() {
            if (!takeNumberWithin(1, MOST_BEATS)) {
                return false;
            }
            int beats = value;
            if (!takeNumber()) {
                return false;
            }
            if (value != 2 && value != 4 && value != 8) {
                return fail(2, start);
            }
            piece.setMetre(beats, value);
            return true;
        }

        private boolean readSplit() {
            int many = 0;
            int together = 0;
            for (int part = 0; part == 0 || part <= MOST_PARTS && isDigitHere(); part++) {
                if (!takeNumberWithin(1, part < MOST_PARTS ? piece.beats - together : 0)) {
                    return false;
                }
                piece.parts[part] = value;
                together += value;
                many++;
                skipBlanks();
            }
            piece.partCount = many;
            return together >= piece.beats || here() != ';' || fail(5, at);
        }

        private boolean readKnee() {
            if (!takeNumberWithin(LEAST_KNEE, MOST_KNEE)) {
                return false;
            }
            piece.knee = value;
            return true;
        }

        private boolean readWide() {
            if (!takeKind()) {
                return false;
            }
            int beams = Piece.beamsOfKind(value);
            if (toldWide[beams]) {
                return fail(3, start);
            }
            toldWide[beams] = true;
            if (!takeNumberWithin(4, 40)) {
                return false;
            }
            piece.widths[beams] = value;
            return true;
        }

        private boolean readElement(boolean sound) {
            if (!takeKind()) {
                return false;
            }
            int kind = value;
            if (!piece.fits(kind)) {
                return fail(5, start);
            }
            if (sound && !takePosition()) {
                return false;
            }
            piece.add(sound, kind, sound ? value : 0);
            return true;
        }
    }

    /**
     * Notes under one beam, at some POSITIONS: which way their stems go, and how ugly each SETTING is.
     * A SETTING that is ALLOWED is told by a key: its UGLINESS above all, below it what goes first of
     * several, so that of two SETTINGS that of the lesser key has the lesser RANK.
     */
    private static final class Group {
        static final long NO_KEY = MOST_LONG;
        static final int HIGHEST = 60;
        private static final int STEEPEST = 8;
        private static final int MOST_WANT = 5;
        private static final int LONGEST = 44;
        private static final int SLOPE_COST = 6;
        private static final int STAFF_EDGE = 9;
        private static final int BEAM_STEP = 3;
        /** The first NOTE's LENGTH is whole, from 10 to 44: so many L at most are ALLOWED by one slope. */
        private static final int MOST_LEVELS = 35;
        private static final int LENGTH_BITS = 24;
        private static final int SLOPE_BITS = 4;
        private static final int HEIGHT_BITS = 7;
        private static final int UGLINESS_AT = SLOPE_BITS + LENGTH_BITS + 2 * HEIGHT_BITS;

        int size;
        /** The last NOTE. */
        private int last;
        int span;
        int wanted;
        boolean kneed;
        final int[] xs = new int[Piece.MOST];
        final int[] heads = new int[Piece.MOST];
        final int[] beams = new int[Piece.MOST];
        final int[] ways = new int[Piece.MOST];
        final int[] ideals = new int[Piece.MOST];
        final long[] keys = new long[(2 * STEEPEST + 1) * MOST_LEVELS];
        int keyCount;
        private final boolean[] taken = new boolean[2 * FARTHEST + 1];
        // Of the slope that the beam is tilted by:
        private final int[] bases = new int[Piece.MOST];
        private int baseSum;
        private int waySum;
        private int low;
        private int high;

        void load(Piece piece, int[] positions, int first, int many, int knee) {
            size = first < 0 ? 0 : Math.max(0, Math.min(many, piece.size - first));
            keyCount = 0;
            for (int i = 0; i < size; i++) {
                xs[i] = piece.xs[first + i] - piece.xs[first];
                heads[i] = positions[first + i];
                beams[i] = piece.beamsOf(first + i);
            }
            last = Math.max(0, size - 1);
            span = size > 0 ? xs[last] : 0;
            decideWays(knee);
            decideWant();
            for (int i = 0; i < size; i++) {
                ideals[i] = idealLength(beams[i], ways[i], heads[i]);
            }
        }

        private void decideWays(int knee) {
            int below = lowerSideOfKnee(knee);
            kneed = below != NOTHING;
            int common = kneed ? 0 : commonWay();
            waySum = 0;
            for (int i = 0; i < size; i++) {
                int bent = heads[i] > below ? -1 : 1;
                ways[i] = kneed ? bent : common;
                waySum += ways[i];
            }
        }

        /** The POSITION right below the gap of the knee; NOTHING: there is no knee. */
        private int lowerSideOfKnee(int knee) {
            markTaken();
            int found = NOTHING;
            int greatest = knee;
            int nearest = MOST_INT;
            int before = NOTHING;
            // From below, so that of gaps alike the lowest one stays.
            for (int p = -FARTHEST; p <= FARTHEST; p++) {
                if (taken[p + FARTHEST]) {
                    int gap = before == NOTHING ? 0 : p - before;
                    int middle = Math.abs(p + before);
                    if (gap > greatest || gap == greatest && middle < nearest) {
                        found = before;
                        greatest = gap;
                        nearest = middle;
                    }
                    before = p;
                }
            }
            return found;
        }

        private void markTaken() {
            for (int i = 0; i < taken.length; i++) {
                taken[i] = false;
            }
            for (int i = 0; i < size; i++) {
                int at = heads[i] + FARTHEST;
                if (at >= 0 && at < taken.length) {
                    taken[at] = true;
                }
            }
        }

        private int commonWay() {
            int highest = 0;
            int lowest = 0;
            int sum = 0;
            for (int i = 0; i < size; i++) {
                highest = Math.max(highest, heads[i]);
                lowest = Math.max(lowest, -heads[i]);
                sum += heads[i];
            }
            int above = highest != lowest ? highest - lowest : sum != 0 ? sum : heads[0];
            return above >= 0 ? -1 : 1;
        }

        private void decideWant() {
            int from = heads[0];
            int to = heads[last];
            wanted = Math.max(-MOST_WANT, Math.min(MOST_WANT, to - from));
            for (int i = 1; i < last && !kneed; i++) {
                boolean nearer = ways[0] > 0 ? heads[i] > Math.max(from, to) : heads[i] < Math.min(from, to);
                wanted = nearer ? 0 : wanted;
            }
        }

        static int idealLength(int beams, int way, int head) {
            int usual = beams == 3 ? 17 : beams == 2 ? 15 : 14;
            int away = Math.abs(2 * head);
            return away > usual && way * head < 0 ? away : usual;
        }

        private static int shortestLength(int beams) {
            return beams == 3 ? 13 : beams == 2 ? 11 : 10;
        }

        static boolean isSetting(int l, int r) {
            return l >= -HIGHEST && l <= HIGHEST && r >= -HIGHEST && r <= HIGHEST && Math.abs(l - r) <= STEEPEST;
        }

        /**
         * Gives the beam a slope (R less L): LENGTH times XX of a stem is then its base and its way times
         * L times XX; low .. high are the L that are ALLOWED.
         */
        private void tilt(int slope) {
            low = Math.max(-HIGHEST, -HIGHEST - slope);
            high = Math.min(HIGHEST, HIGHEST - slope);
            baseSum = 0;
            if (span < 1) {
                high = low - 1;
                return;
            }
            for (int i = 0; i < size; i++) {
                int base = ways[i] * (slope * xs[i] - 2 * heads[i] * span);
                int least = Math.floorDiv(base, span) - shortestLength(beams[i]);
                int most = Math.floorDiv(LONGEST * span - base, span);
                if (ways[i] > 0) {
                    low = Math.max(low, -least);
                    high = Math.min(high, most);
                } else {
                    low = Math.max(low, -most);
                    high = Math.min(high, least);
                }
                bases[i] = base;
                baseSum += base;
            }
        }

        boolean allows(int l, int r) {
            tilt(r - l);
            return l >= low && l <= high;
        }

        /** STEMS of the tilted beam. */
        private int stemsAt(int l) {
            if (span < 1) {
                return 0;
            }
            int sum = 0;
            for (int i = 0; i < size; i++) {
                int more = bases[i] + (ways[i] * l - ideals[i]) * span;
                sum += more < 0 ? -2 * more : more;
            }
            return sum / span;
        }

        private int slopeOf(int slope) {
            int against = slope * wanted < 0 ? 20 : 0;
            return SLOPE_COST * Math.abs(slope - wanted) + against;
        }

        private int staffAt(int l, int slope) {
            return staffAtEnd(0, l, slope) + staffAtEnd(1, l + slope, -slope);
        }

        /** What the BEAMS at an end cost, the first one at this height, the beam rising so from there. */
        private int staffAtEnd(int end, int height, int rise) {
            int note = end == 0 ? 0 : last;
            int sum = 0;
            for (int k = 0; k < beams[note]; k++) {
                sum += touchCost(height - ways[note] * BEAM_STEP * k, rise);
            }
            return sum;
        }

        private static int touchCost(int height, int rise) {
            if (height < -STAFF_EDGE || height > STAFF_EDGE) {
                return 0;
            }
            // The two lowest bits: modulo 4, of heights below 0, too.
            switch (height & 3) {
                case 0: return rise == 0 ? 2 : 1;
                case 1: return rise < 0 ? 8 : 0;
                case 2: return 25;
                default: return rise > 0 ? 8 : 0;
            }
        }

        static boolean isOnStaff(int height) {
            return height >= -STAFF_EDGE && height <= STAFF_EDGE;
        }

        int beamsAtEnd(int end) {
            return beams[end == 0 ? 0 : last];
        }

        /** Of the k-th BEAM at an end, the first one being at L, at R. */
        int beamHeight(int end, int first, int k) {
            return first - ways[end == 0 ? 0 : last] * BEAM_STEP * k;
        }

        int mostBeams() {
            int most = 0;
            for (int i = 0; i < size; i++) {
                most = Math.max(most, beams[i]);
            }
            return most;
        }

        int howManyUp() {
            int many = 0;
            for (int i = 0; i < size; i++) {
                many += ways[i] > 0 ? 1 : 0;
            }
            return many;
        }

        /** The key of a SETTING of the tilted beam. */
        private long keyAt(int l, int slope, int ugly) {
            long key = (((long) ugly) << SLOPE_BITS) + Math.abs(slope);
            key = (key << LENGTH_BITS) + baseSum + waySum * l * span;
            key = (key << HEIGHT_BITS) + HIGHEST + ways[0] * l;
            return (key << HEIGHT_BITS) + HIGHEST + ways[0] * (l + slope);
        }

        long keyOfSetting(int l, int r) {
            tilt(r - l);
            return keyAt(l, r - l, stemsAt(l) + slopeOf(r - l) + staffAt(l, r - l));
        }

        static int uglinessOf(long key) {
            return (int) (key >> UGLINESS_AT);
        }

        private int heightIn(long code) {
            return ways[0] * ((int) (code & ((1 << HEIGHT_BITS) - 1)) - HIGHEST);
        }

        int leftOf(long key) {
            return heightIn(key >> HEIGHT_BITS);
        }

        int rightOf(long key) {
            return heightIn(key);
        }

        /** What best() would tell of it. */
        int tell(long key, int what) {
            switch (what) {
                case 0: return leftOf(key);
                case 1: return rightOf(key);
                case 2: return uglinessOf(key);
                default: return tellSetting(leftOf(key), rightOf(key), what);
            }
        }

        /** From what 2 on as best() numbers them. */
        int tellSetting(int l, int r, int what) {
            int slope = r - l;
            tilt(slope);
            switch (what) {
                case 3: return stemsAt(l);
                case 4: return slopeOf(slope);
                case 5: return staffAt(l, slope);
                default: return stemsAt(l) + slopeOf(slope) + staffAt(l, slope);
            }
        }

        /** Times XX. */
        int heightOf(long key, int at) {
            int l = leftOf(key);
            return l * span + (rightOf(key) - l) * xs[at];
        }

        /** Times XX. */
        int lengthOf(long key, int at) {
            return ways[at] * (heightOf(key, at) - 2 * heads[at] * span);
        }

        long findBest() {
            long found = NO_KEY;
            // A slope that alone costs more than the best one so far can't be better, nor one beyond it.
            for (int away = 0; away <= MOST_WANT + STEEPEST && SLOPE_COST * away <= uglinessOf(found); away++) {
                found = bestSloping(wanted - away, found);
                if (away > 0) {
                    found = bestSloping(wanted + away, found);
                }
            }
            return found;
        }

        long findLevel() {
            return bestSloping(0, NO_KEY);
        }

        private long bestSloping(int slope, long found) {
            if (slope < -STEEPEST || slope > STEEPEST) {
                return found;
            }
            tilt(slope);
            int sloping = slopeOf(slope);
            long best = found;
            for (int l = low; l <= high; l++) {
                int ugly = sloping + stemsAt(l);
                if (ugly <= uglinessOf(best)) {
                    best = Math.min(best, keyAt(l, slope, ugly + staffAt(l, slope)));
                }
            }
            return best;
        }

        /** Fills keys with all SETTINGS that are ALLOWED, in no order: how many. */
        int gather() {
            keyCount = 0;
            for (int slope = -STEEPEST; slope <= STEEPEST; slope++) {
                tilt(slope);
                int sloping = slopeOf(slope);
                for (int l = low; l <= high && keyCount < keys.length; l++) {
                    keys[keyCount] = keyAt(l, slope, sloping + stemsAt(l) + staffAt(l, slope));
                    keyCount++;
                }
            }
            return keyCount;
        }

        int rankOf(long key) {
            int many = gather();
            int rank = 0;
            for (int i = 0; i < many; i++) {
                rank += keys[i] < key ? 1 : 0;
            }
            return rank;
        }

        /** Shell's way: no room beside the keys is needed. */
        void sortKeys() {
            for (int gap = keyCount / 2; gap > 0; gap /= 2) {
                for (int i = gap; i < keyCount; i++) {
                    long key = keys[i];
                    int at = i;
                    while (at >= gap && keys[at - gap] > key) {
                        keys[at] = keys[at - gap];
                        at -= gap;
                    }
                    keys[at] = key;
                }
            }
        }
    }

    /** All GROUPS together. */
    private static final class Totals {
        int ugliness;
        private int aside;
        private int worst;
        private int kneed;

        static boolean isWhat(int what) {
            return what >= 0 && what <= 3;
        }

        void take(Piece piece, int[] positions, int knee, Group group) {
            ugliness = 0;
            aside = 0;
            worst = NOT_THERE;
            kneed = 0;
            int most = -1;
            for (int g = 0; g < piece.groups; g++) {
                group.load(piece, positions, piece.firsts[g], piece.lengths[g], knee);
                kneed += group.kneed ? 1 : 0;
                long key = group.findBest();
                if (key == Group.NO_KEY) {
                    aside++;
                } else {
                    int ugly = Group.uglinessOf(key);
                    ugliness += ugly;
                    worst = ugly > most ? g : worst;
                    most = Math.max(most, ugly);
                }
            }
        }

        int tell(int what) {
            switch (what) {
                case 0: return ugliness;
                case 1: return aside;
                case 2: return worst;
                default: return kneed;
            }
        }

        /** The lesser one is better: fewer aside, then less UGLINESS. */
        long asideThenUgliness() {
            return ((long) aside << 32) + ugliness;
        }
    }

    /** Finds the SMOOTH SETTINGS, from the last GROUP on: what all GROUPS behind can cost at least. */
    private static final class Smoother {
        private static final int HEIGHTS = 2 * Group.HIGHEST + 1;
        private static final int MOST_GROUPS = Piece.MOST / 2;
        private static final int TOO_MUCH = 1000000000;

        int together;
        /** By GROUP and R of the one ahead of it: least UGLINESS from that GROUP on. */
        private final int[] behind = new int[(MOST_GROUPS + 1) * HEIGHTS];
        /** By L of one GROUP: least UGLINESS from it on. */
        private final int[] byLeft = new int[HEIGHTS];

        /** Whether it can be; together tells the UGLINESS then. */
        boolean weigh(Piece piece, Group group, int n) {
            int groups = Math.min(piece.groups, MOST_GROUPS);
            for (int i = 0; i < HEIGHTS; i++) {
                behind[groups * HEIGHTS + i] = 0;
            }
            together = 0;
            for (int g = groups - 1; g >= 0; g--) {
                loadGathered(piece, group, g);
                together = weighByLeft(group, g);
                if (together >= TOO_MUCH) {
                    return false;
                }
                for (int i = 0; i < HEIGHTS; i++) {
                    behind[g * HEIGHTS + i] = leastNear(i, n);
                }
            }
            return true;
        }

        private static void loadGathered(Piece piece, Group group, int g) {
            group.load(piece, piece.heads, piece.firsts[g], piece.lengths[g], piece.knee);
            group.gather();
        }

        private int weighByLeft(Group group, int g) {
            for (int i = 0; i < HEIGHTS; i++) {
                byLeft[i] = TOO_MUCH;
            }
            int least = TOO_MUCH;
            for (int k = 0; k < group.keyCount; k++) {
                long key = group.keys[k];
                int cost = costFrom(group, g, key);
                int l = group.leftOf(key) + Group.HIGHEST;
                byLeft[l] = Math.min(byLeft[l], cost);
                least = Math.min(least, cost);
            }
            return least;
        }

        private int costFrom(Group group, int g, long key) {
            int next = (g + 1) * HEIGHTS + group.rightOf(key) + Group.HIGHEST;
            return Math.min(TOO_MUCH, Group.uglinessOf(key) + behind[next]);
        }

        private int leastNear(int middle, int n) {
            int least = TOO_MUCH;
            int last = Math.min(HEIGHTS - 1, middle + n);
            for (int i = Math.max(0, middle - n); i <= last; i++) {
                least = Math.min(least, byLeft[i]);
            }
            return least;
        }

        /** The key of GROUP which, after weigh() has found that it can be; that GROUP is loaded then. */
        long choose(Piece piece, Group group, int n, int which) {
            long chosen = Group.NO_KEY;
            int r = 0;
            for (int g = 0; g <= which && g < piece.groups; g++) {
                loadGathered(piece, group, g);
                chosen = cheapest(group, g, r, g == 0 ? HEIGHTS : n);
                r = group.rightOf(chosen);
            }
            return chosen;
        }

        private long cheapest(Group group, int g, int r, int n) {
            int least = TOO_MUCH;
            long found = Group.NO_KEY;
            for (int k = 0; k < group.keyCount; k++) {
                long key = group.keys[k];
                if (Math.abs(group.leftOf(key) - r) <= n) {
                    int cost = costFrom(group, g, key);
                    if (cost < least || cost == least && key < found) {
                        least = cost;
                        found = key;
                    }
                }
            }
            return found;
        }
    }
}
