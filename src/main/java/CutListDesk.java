import java.util.Arrays;

/** Two cuts of a film, traced to the reels they are made of; ../shared/DOC.md tells what each call promises. */
public final class CutListDesk {
    public static final int NONE = -1, BAD = -2, NOT = -3, FULL = -4;

    private static final int LISTS = 2, EDITS = 8, REELS = 6;
    private static final int HIGHEST_LENGTH = 200000, FIRST_LENGTH = 100000;
    private static final int IN = 0, LONG = 1, P = 2, Q = 3;
    private static final int[] LEAST_PART = {0, 1, 0, 1};
    private static final int[] HIGHEST_PART = {199999, 500, 6, 6};
    private static final int ITEMS_OF_EDIT = 5;

    private static final int COUNTING = 0, HANDLE = 1, NEAR = 2;
    private static final int[] HIGHEST_SETTING = {2, 500, 500};
    private static final int FIRST_HANDLE = 10;

    private static final int CUT_FRAMES = 4000, REEL_FRAMES = 300000;
    private static final int TOLD_FRAMES = 10000000, HOURS = 100;
    private static final int ANEW_FRAMES = 10000, REEL_STEP = 1000000;

    private static final int NEW = 0, KEPT = 1, MOVED = 2, TRIMMED = 3;

    private static final int SHEETS = 4, FORMS = 3, BYTES = 0, SHORTS = 1, ITEMS = 60;
    private static final int LEAST_INT = -2147483648;
    private static final int NULL = 1, INDEX = 2, CAST = 3, STORE = 4, SIZE = 5;

    private final Cut[] cuts = new Cut[LISTS];
    private final int[] lengths = new int[REELS];
    private final int[] settings = new int[HIGHEST_SETTING.length];
    private final Sheet[] sheets = new Sheet[SHEETS];
    private final Spans[] pulled = new Spans[LISTS];
    private final Spans fresh = new Spans(2 * EDITS);
    private final Match match = new Match();
    private int finding;

    public CutListDesk() {
        for (int list = 0; list < LISTS; list++) {
            cuts[list] = new Cut();
            pulled[list] = new Spans(EDITS);
        }
        for (int s = 0; s < SHEETS; s++) {
            sheets[s] = new Sheet();
        }
        Arrays.fill(lengths, FIRST_LENGTH);
        settings[HANDLE] = FIRST_HANDLE;
    }

    // ---- the lists

    public int edit(int list, int reel, int in, int many, int p, int q) {
        if (!isBelow(list, LISTS) || !mayBeEdit(reel, in, many, p, q)) {
            return BAD;
        }
        Cut cut = cuts[list];
        if (cut.isFull()) {
            return FULL;
        }
        cut.append(reel, in, many, p, q);
        return cut.size;
    }

    public int back(int list) {
        if (!isBelow(list, LISTS)) {
            return BAD;
        }
        Cut cut = cuts[list];
        if (cut.size == 0) {
            return NOT;
        }
        cut.size--;
        return cut.size;
    }

    public int trim(int list, int edit, int what, int v) {
        if (!isEdit(list, edit) || !mayBePart(what, v)) {
            return BAD;
        }
        Edit trimmed = cuts[list].edits[edit];
        int before = trimmed.part(what);
        trimmed.become(what, v);
        return before;
    }

    public int set(int what, int v) {
        if (!isBelow(what, HIGHEST_SETTING.length) || v < 0 || v > HIGHEST_SETTING[what]) {
            return BAD;
        }
        int before = settings[what];
        settings[what] = v;
        return before;
    }

    public int reel(int reel, int frames) {
        if (!isBelow(reel, REELS) || frames < 1 || frames > HIGHEST_LENGTH) {
            return BAD;
        }
        int before = lengths[reel];
        lengths[reel] = frames;
        return before;
    }

    public int swap() {
        Cut was = cuts[0];
        cuts[0] = cuts[1];
        cuts[1] = was;
        return cuts[0].size + cuts[1].size;
    }

    public int read(int list, int s) {
        if (!isBelow(list, LISTS) || !isBelow(s, SHEETS)) {
            return BAD;
        }
        Sheet from = sheets[s];
        if (from.lost) {
            return found(NULL);
        }
        Cut cut = cuts[list];
        int many = 0;
        for (int at = 0; at + ITEMS_OF_EDIT <= from.size; at += ITEMS_OF_EDIT) {
            if (cut.isFull() || !appendFrom(cut, from, at)) {
                break;
            }
            many++;
        }
        return many;
    }

    private static boolean appendFrom(Cut cut, Sheet from, int at) {
        int reel = from.item(at);
        int in = from.item(at + 1);
        int many = from.item(at + 2);
        int p = from.item(at + 3);
        int q = from.item(at + 4);
        if (!mayBeEdit(reel, in, many, p, q)) {
            return false;
        }
        cut.append(reel, in, many, p, q);
        return true;
    }

    private static boolean mayBeEdit(int reel, int in, int many, int p, int q) {
        return isBelow(reel, REELS) && mayBePart(IN, in) && mayBePart(LONG, many)
                && mayBePart(P, p) && mayBePart(Q, q);
    }

    private static boolean mayBePart(int what, int v) {
        return isBelow(what, HIGHEST_PART.length) && isBelow(what, LEAST_PART.length)
                && v >= LEAST_PART[what] && v <= HIGHEST_PART[what];
    }

    private static boolean isBelow(int v, int bound) {
        return v >= 0 && v < bound;
    }

    private boolean isEdit(int list, int edit) {
        return isBelow(list, LISTS) && isBelow(edit, cuts[list].size);
    }

    private int found(int number) {
        finding = number;
        return -10 - number;
    }

    // ---- frames

    public int info(int list, int edit, int what) {
        if (!isEdit(list, edit)) {
            return BAD;
        }
        Cut cut = cuts[list];
        Edit of = cut.edits[edit];
        switch (what) {
            case 0: return of.reel;
            case 1: return of.in;
            case 2: return of.many;
            case 3: return of.p;
            case 4: return of.q;
            case 5: return cut.begin(edit);
            case 6: return of.first();
            case 7: return of.last();
            default: return BAD;
        }
    }

    public int shows(int list, int frame, int what) {
        if (!isBelow(list, LISTS) || !isBelow(frame, CUT_FRAMES) || !isBelow(what, 4)) {
            return BAD;
        }
        Cut cut = cuts[list];
        int edit = cut.holder(frame);
        if (!isBelow(edit, cut.size)) {
            return NONE;
        }
        Edit of = cut.edits[edit];
        int shown = of.frameAt(frame - cut.begin(edit));
        switch (what) {
            case 0: return edit;
            case 1: return of.reel;
            case 2: return shown;
            default: return shown < lengthOf(of.reel) ? 0 : 1;
        }
    }

    public int seen(int list, int reel, int frame, int what) {
        if (!isBelow(list, LISTS) || !isBelow(reel, REELS) || !isBelow(frame, REEL_FRAMES) || !isBelow(what, 2)) {
            return BAD;
        }
        return what == 0 ? cuts[list].times(reel, frame) : cuts[list].firstShowing(reel, frame);
    }

    public int still(int list, int edit, int what) {
        if (!isEdit(list, edit) || !isBelow(what, 2)) {
            return BAD;
        }
        Edit of = cuts[list].edits[edit];
        return (what == 0 ? of.many : of.reach()) - of.different();
    }

    private int lengthOf(int reel) {
        return isBelow(reel, REELS) ? lengths[reel] : 0;
    }

    // ---- counting

    public int told(int frame, int what) {
        if (!isBelow(frame, TOLD_FRAMES) || !isBelow(what, 4)) {
            return BAD;
        }
        return Clock.part(frame, settings[COUNTING], what);
    }

    public int number(int h, int m, int s, int f) {
        int counting = settings[COUNTING];
        if (!isBelow(h, HOURS) || !isBelow(m, 60) || !isBelow(s, 60) || !isBelow(f, Clock.rate(counting))) {
            return BAD;
        }
        if (counting == Clock.DROPPING && Clock.isLeftOut(m, s, f)) {
            return NOT;
        }
        return Clock.frame(h * 60 + m, s, f, counting);
    }

    // ---- pulls

    public int pulls(int list) {
        return isBelow(list, LISTS) ? gather(list, NONE).size : BAD;
    }

    public int pull(int list, int i, int what) {
        if (!isBelow(list, LISTS) || !isBelow(i, EDITS) || !isBelow(what, 5)) {
            return BAD;
        }
        Spans spans = gather(list, NONE);
        if (!isBelow(i, spans.size)) {
            return NONE;
        }
        switch (what) {
            case 0: return spans.reels[i];
            case 1: return spans.firsts[i];
            case 2: return spans.lasts[i];
            case 3: return spans.bits[i];
            default: return lacking(spans, i);
        }
    }

    public int waste(int list) {
        return isBelow(list, LISTS) ? gather(list, NONE).frames() - cuts[list].shownFrames() : BAD;
    }

    public int total(int list, int what) {
        if (!isBelow(list, LISTS)) {
            return BAD;
        }
        switch (what) {
            case 0: return gather(list, NONE).frames();
            case 1: return cuts[list].frames();
            case 2: return lackingOfAll(gather(list, NONE));
            default: return BAD;
        }
    }

    private int lackingOfAll(Spans spans) {
        int sum = 0;
        for (int i = 0; i < spans.size; i++) {
            sum += lacking(spans, i);
        }
        return sum;
    }

    private int lacking(Spans spans, int i) {
        if (!isBelow(i, spans.size)) {
            return 0;
        }
        int firstLacking = Math.max(spans.firsts[i], lengthOf(spans.reels[i]));
        return Math.max(0, spans.lasts[i] - firstLacking + 1);
    }

    /** The PULLS of a LIST as if it had not the EDIT without (NONE: as it is). */
    private Spans gather(int list, int without) {
        Spans spans = pulled[list];
        Cut cut = cuts[list];
        int handle = settings[HANDLE];
        spans.size = 0;
        for (int e = 0; e < cut.size; e++) {
            if (e != without) {
                Edit of = cut.edits[e];
                spans.insert(of.reel, Math.max(0, of.first() - handle), of.last() + handle, 1 << e);
            }
        }
        spans.join(settings[NEAR]);
        return spans;
    }

    // ---- both

    public int compare(int edit, int what) {
        if (!isEdit(1, edit) || !isBelow(what, 3)) {
            return BAD;
        }
        match.pair(cuts[0], cuts[1]);
        switch (what) {
            case 0: return match.kind(edit, cuts[0], cuts[1]);
            case 1: return match.partner(edit);
            default: return match.later(edit, cuts[0], cuts[1]);
        }
    }

    public int gone() {
        match.pair(cuts[0], cuts[1]);
        return ((1 << cuts[0].size) - 1) & ~match.taken;
    }

    public int anew(int i) {
        if (i != NONE && !isBelow(i, ANEW_FRAMES)) {
            return BAD;
        }
        gatherFresh();
        return i == NONE ? fresh.frames() : fresh.nth(i);
    }

    public int saving(int what) {
        if (!isBelow(what, 2)) {
            return BAD;
        }
        int best = NONE;
        int fewest = NONE;
        for (int e = 0; e < cuts[1].size; e++) {
            int frames = gather(1, e).frames();
            if (best == NONE || frames < fewest) {
                best = e;
                fewest = frames;
            }
        }
        return what == 0 ? best : fewest;
    }

    private int keptEdits() {
        match.pair(cuts[0], cuts[1]);
        int many = 0;
        for (int e = 0; e < cuts[1].size; e++) {
            if (match.kind(e, cuts[0], cuts[1]) == KEPT) {
                many++;
            }
        }
        return many;
    }

    private void gatherFresh() {
        Spans before = gather(0, NONE);
        Spans now = gather(1, NONE);
        fresh.size = 0;
        for (int i = 0; i < now.size; i++) {
            int reel = now.reels[i];
            int last = Math.min(now.lasts[i], lengthOf(reel) - 1);
            addWithout(before, reel, now.firsts[i], last);
        }
    }

    private void addWithout(Spans before, int reel, int first, int last) {
        int at = first;
        for (int i = 0; i < before.size; i++) {
            if (before.reels[i] == reel) {
                fresh.append(reel, at, Math.min(last, before.firsts[i] - 1));
                at = Math.max(at, before.lasts[i] + 1);
            }
        }
        fresh.append(reel, at, last);
    }

    // ---- sheets

    public int sheet(int s, int form, int n) {
        if (!isBelow(s, SHEETS) || !isBelow(form, FORMS) || n > ITEMS) {
            return BAD;
        }
        if (n < 0) {
            return found(SIZE);
        }
        sheets[s].begin(form, n);
        return n;
    }

    public int lose(int s) {
        if (!isBelow(s, SHEETS)) {
            return BAD;
        }
        Sheet of = sheets[s];
        if (of.lost) {
            return found(NULL);
        }
        of.lost = true;
        return of.size;
    }

    public int put(int s, int form, int i, int v) {
        if (!isBelow(s, SHEETS) || !isBelow(form, FORMS)) {
            return BAD;
        }
        int wrong = sheets[s].fault(form, i);
        if (wrong != 0) {
            return found(wrong);
        }
        sheets[s].store(i, v);
        return 1;
    }

    public int get(int s, int form, int i) {
        if (!isBelow(s, SHEETS) || !isBelow(form, FORMS)) {
            return LEAST_INT;
        }
        int wrong = sheets[s].fault(form, i);
        if (wrong != 0) {
            finding = wrong;
            return LEAST_INT;
        }
        return sheets[s].item(i);
    }

    public int copy(int s, int i, int t, int j, int n) {
        if (!isBelow(s, SHEETS) || !isBelow(t, SHEETS)) {
            return BAD;
        }
        Sheet from = sheets[s];
        Sheet to = sheets[t];
        if (from.lost || to.lost) {
            return found(NULL);
        }
        if (from.form != to.form) {
            return found(STORE);
        }
        if (!from.hasItems(i, n) || !to.hasItems(j, n)) {
            return found(INDEX);
        }
        System.arraycopy(from.items, i, to.items, j, n);
        return 1;
    }

    public int write(int list, int s) {
        if (!isBelow(list, LISTS) || !isBelow(s, SHEETS)) {
            return BAD;
        }
        Sheet to = sheets[s];
        if (to.lost) {
            return found(NULL);
        }
        Spans spans = gather(list, NONE);
        int many = Math.min(2 * spans.size, to.size);
        for (int i = 0; i < many; i++) {
            to.store(i, i % 2 == 0 ? spans.firsts[i / 2] : spans.lasts[i / 2]);
        }
        return many;
    }

    public int count(int what) {
        switch (what) {
            case 0: return cuts[0].size;
            case 1: return cuts[1].size;
            case 2: return cuts[0].frames();
            case 3: return cuts[1].frames();
            case 4: return pulls(1);
            case 5: return keptEdits();
            case 6: return settings[COUNTING];
            case 7: return anew(NONE);
            case 8: return finding;
            default: return BAD;
        }
    }

    public long digest() {
        long h = 17;
        for (int what = 0; what <= 7; what++) {
            h = 31 * h + count(what);
        }
        for (int list = 0; list < LISTS; list++) {
            h = digestOfList(digestOfEdits(h, list), list);
        }
        for (int e = 0; e < cuts[1].size; e++) {
            for (int what = 0; what <= 2; what++) {
                h = 31 * h + compare(e, what);
            }
        }
        h = 31 * h + gone();
        h = 31 * h + anew(NONE);
        h = 31 * h + anew(0);
        h = 31 * h + anew(25);
        h = 31 * h + saving(0);
        h = 31 * h + saving(1);
        h = digestOfTold(digestOfTold(digestOfTold(h, 1799), 1800), 17982);
        h = 31 * h + number(0, 1, 0, 0);
        h = 31 * h + number(0, 10, 0, 0);
        return 31 * h + number(1, 2, 3, 4);
    }

    private long digestOfEdits(long from, int list) {
        long h = from;
        for (int e = 0; e < cuts[list].size; e++) {
            for (int what = 0; what <= 7; what++) {
                h = 31 * h + info(list, e, what);
            }
            h = 31 * h + still(list, e, 0);
            h = 31 * h + still(list, e, 1);
        }
        return h;
    }

    private long digestOfList(long from, int list) {
        long h = from;
        for (int i = 0; i < EDITS; i++) {
            for (int what = 0; what <= 4; what++) {
                h = 31 * h + pull(list, i, what);
            }
        }
        h = 31 * h + waste(list);
        for (int what = 0; what <= 2; what++) {
            h = 31 * h + total(list, what);
        }
        for (int what = 0; what <= 3; what++) {
            h = 31 * h + shows(list, 7, what);
        }
        h = 31 * h + seen(list, 1, 100, 0);
        return 31 * h + seen(list, 1, 100, 1);
    }

    private long digestOfTold(long from, int frame) {
        long h = from;
        for (int what = 0; what <= 3; what++) {
            h = 31 * h + told(frame, what);
        }
        return h;
    }

    /** An EDIT, and which frames of its REEL it shows. */
    private static final class Edit {
        int reel;
        int in;
        int many = 1;
        int p;
        int q = 1;

        int part(int what) {
            switch (what) {
                case IN: return in;
                case LONG: return many;
                case P: return p;
                default: return q;
            }
        }

        void become(int what, int v) {
            switch (what) {
                case IN: in = v; break;
                case LONG: many = v; break;
                case P: p = v; break;
                default: q = v; break;
            }
        }

        int frameAt(int k) {
            return q == 0 ? in : in + k * p / q;
        }

        int first() {
            return frameAt(0);
        }

        int last() {
            return frameAt(many - 1);
        }

        int reach() {
            return last() - first() + 1;
        }

        /** Up to full speed none is skipped, from full speed on none is shown twice. */
        int different() {
            return p <= q ? reach() : many;
        }

        /** The first frame of the EDIT at or behind the one where its REEL has come by d frames; many if it never has. */
        private int firstAtLeast(int d) {
            if (d <= 0) {
                return 0;
            }
            int k = p == 0 ? many : (d * q + p - 1) / p;
            return k < many ? k : many;
        }

        int firstShowing(int frame) {
            int k = firstAtLeast(frame - in);
            return k < many && frameAt(k) == frame ? k : NONE;
        }

        int times(int frame) {
            return frame < in ? 0 : firstAtLeast(frame - in + 1) - firstAtLeast(frame - in);
        }

        boolean isLike(Edit other) {
            return reel == other.reel && in == other.in && p * other.q == other.p * q;
        }
    }

    /** A LIST. Its eight EDITS are made once; size tells how many count. */
    private static final class Cut {
        final Edit[] edits = new Edit[EDITS];
        int size;

        Cut() {
            for (int e = 0; e < EDITS; e++) {
                edits[e] = new Edit();
            }
        }

        boolean isFull() {
            return size >= EDITS;
        }

        void append(int reel, int in, int many, int p, int q) {
            if (isFull()) {
                return;
            }
            Edit added = edits[size];
            added.reel = reel;
            added.in = in;
            added.many = many;
            added.p = p;
            added.q = q;
            size++;
        }

        int begin(int edit) {
            int sum = 0;
            for (int e = 0; e < edit && e < size; e++) {
                sum += edits[e].many;
            }
            return sum;
        }

        int frames() {
            return begin(size);
        }

        int holder(int frame) {
            int end = 0;
            for (int e = 0; e < size; e++) {
                end += edits[e].many;
                if (frame < end) {
                    return e;
                }
            }
            return NONE;
        }

        int times(int reel, int frame) {
            int sum = 0;
            for (int e = 0; e < size; e++) {
                if (edits[e].reel == reel) {
                    sum += edits[e].times(frame);
                }
            }
            return sum;
        }

        int firstShowing(int reel, int frame) {
            for (int e = 0; e < size; e++) {
                int k = edits[e].reel == reel ? edits[e].firstShowing(frame) : NONE;
                if (k != NONE) {
                    return begin(e) + k;
                }
            }
            return NONE;
        }

        /** How many frames of REELS are shown, each counted once: where the cut shows it first. */
        int shownFrames() {
            int sum = 0;
            for (int e = 0; e < size; e++) {
                Edit of = edits[e];
                int begin = begin(e);
                for (int k = 0; k < of.many; k++) {
                    if (firstShowing(of.reel, of.frameAt(k)) == begin + k) {
                        sum++;
                    }
                }
            }
            return sum;
        }
    }

    /** Spans of REELS in order, of which size count. */
    private static final class Spans {
        final int[] reels;
        final int[] firsts;
        final int[] lasts;
        final int[] bits;
        int size;

        Spans(int most) {
            reels = new int[most];
            firsts = new int[most];
            lasts = new int[most];
            bits = new int[most];
        }

        private boolean isFull() {
            return size >= reels.length;
        }

        /** A span more, at its place by REEL and first frame. */
        void insert(int reel, int first, int last, int bit) {
            if (isFull()) {
                return;
            }
            int at = size;
            while (at > 0 && isBehind(at - 1, reel, first)) {
                move(at - 1, at);
                at--;
            }
            fill(at, reel, first, last, bit);
            size++;
        }

        /** A span more behind all others, unless it is empty. */
        void append(int reel, int first, int last) {
            if (first <= last && !isFull()) {
                fill(size, reel, first, last, 0);
                size++;
            }
        }

        private boolean isBehind(int i, int reel, int first) {
            return reels[i] > reel || (reels[i] == reel && firsts[i] > first);
        }

        private void move(int from, int to) {
            reels[to] = reels[from];
            firsts[to] = firsts[from];
            lasts[to] = lasts[from];
            bits[to] = bits[from];
        }

        private void fill(int at, int reel, int first, int last, int bit) {
            reels[at] = reel;
            firsts[at] = first;
            lasts[at] = last;
            bits[at] = bit;
        }

        /** Spans that are in order need be joined with the one ahead alone. */
        void join(int near) {
            int kept = 0;
            for (int i = 0; i < size; i++) {
                if (kept > 0 && reels[kept - 1] == reels[i] && firsts[i] - lasts[kept - 1] - 1 <= near) {
                    lasts[kept - 1] = Math.max(lasts[kept - 1], lasts[i]);
                    bits[kept - 1] |= bits[i];
                } else {
                    move(i, kept);
                    kept++;
                }
            }
            size = kept;
        }

        int frames() {
            int sum = 0;
            for (int i = 0; i < size; i++) {
                sum += lasts[i] - firsts[i] + 1;
            }
            return sum;
        }

        /** The n-th frame of all, as 1000000 times the REEL and the frame. */
        int nth(int n) {
            int left = n;
            for (int i = 0; i < size; i++) {
                int many = lasts[i] - firsts[i] + 1;
                if (left < many) {
                    return REEL_STEP * reels[i] + firsts[i] + left;
                }
                left -= many;
            }
            return NONE;
        }
    }

    /** Which EDIT of LIST 0 each EDIT of LIST 1 has, as of the latest pair(). */
    private static final class Match {
        private final int[] partners = new int[EDITS];
        int taken;

        void pair(Cut was, Cut is) {
            Arrays.fill(partners, NONE);
            taken = 0;
            takeEach(was, is, true);
            takeEach(was, is, false);
        }

        private void takeEach(Cut was, Cut is, boolean asLong) {
            for (int e = 0; e < is.size; e++) {
                if (partners[e] == NONE) {
                    takeFor(e, was, is.edits[e], asLong);
                }
            }
        }

        private void takeFor(int e, Cut was, Edit of, boolean asLong) {
            for (int i = 0; i < was.size; i++) {
                Edit other = was.edits[i];
                boolean isFree = (taken >> i & 1) == 0;
                if (isFree && of.isLike(other) && (!asLong || of.many == other.many)) {
                    partners[e] = i;
                    taken |= 1 << i;
                    return;
                }
            }
        }

        int partner(int e) {
            return isBelow(e, EDITS) ? partners[e] : NONE;
        }

        int kind(int e, Cut was, Cut is) {
            int other = partner(e);
            if (!isBelow(other, was.size) || !isBelow(e, is.size)) {
                return NEW;
            }
            if (is.edits[e].many != was.edits[other].many) {
                return TRIMMED;
            }
            return is.begin(e) == was.begin(other) ? KEPT : MOVED;
        }

        int later(int e, Cut was, Cut is) {
            int other = partner(e);
            return other == NONE ? 0 : is.begin(e) - was.begin(other);
        }
    }

    /** Frames as HOURS, MINUTES, SECONDS and FRAMES, and back. */
    private static final class Clock {
        static final int DROPPING = 0, BY_25 = 2;
        private static final int FULL_MINUTE = 1800, SHORT_MINUTE = 1798, TEN_MINUTES = 17982;

        static int rate(int counting) {
            return counting == BY_25 ? 25 : 30;
        }

        static int part(int frame, int counting, int what) {
            int rate = rate(counting);
            int told = counting == DROPPING ? frame + leftOutBefore(frame) : frame;
            int seconds = rate == 0 ? 0 : told / rate;
            switch (what) {
                case 0: return seconds / 3600;
                case 1: return seconds / 60 % 60;
                case 2: return seconds % 60;
                default: return told - seconds * rate;
            }
        }

        private static int leftOutBefore(int frame) {
            int rest = frame % TEN_MINUTES;
            int shortMinutes = rest < FULL_MINUTE ? 0 : 1 + (rest - FULL_MINUTE) / SHORT_MINUTE;
            return 2 * (frame / TEN_MINUTES * 9 + shortMinutes);
        }

        static boolean isLeftOut(int m, int s, int f) {
            return m % 10 != 0 && s == 0 && f < 2;
        }

        static int frame(int minutes, int s, int f, int counting) {
            int told = (minutes * 60 + s) * rate(counting) + f;
            return counting == DROPPING ? told - 2 * (minutes - minutes / 10) : told;
        }
    }

    /** A SHEET. Its row is made once, for the most items, and used again. */
    private static final class Sheet {
        final int[] items = new int[ITEMS];
        boolean lost = true;
        int form;
        int size;

        void begin(int ofForm, int many) {
            lost = false;
            form = ofForm;
            size = many;
            Arrays.fill(items, 0);
        }

        /** The number of the FINDING of whoever treats item i as of a FORM; 0 if there is none. */
        int fault(int asForm, int i) {
            if (lost) {
                return NULL;
            }
            if (form != asForm) {
                return CAST;
            }
            return isBelow(i, size) ? 0 : INDEX;
        }

        boolean hasItems(int from, int many) {
            return from >= 0 && many >= 0 && from <= size && many <= size - from;
        }

        int item(int i) {
            return isBelow(i, size) ? items[i] : 0;
        }

        void store(int i, int v) {
            if (isBelow(i, size)) {
                items[i] = form == BYTES ? (byte) v : form == SHORTS ? (short) v : v;
            }
        }
    }
}
