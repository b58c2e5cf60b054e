import java.util.ArrayList;
import java.util.BitSet;
import java.util.List;

/** All promises at once: long mixed runs against a model that goes frame by frame, with sets of frames. */
public final class ModelTest {
  /** 512 calls of one object are promised, and the last step of a run may make some thirty. */
  private static final int RUNS = 1700, CALLS = 475;
  private static final int REELS = 6, LIMIT = 210000;
  private static final int NONE = -1, BAD = -2, NOT = -3, FULL = -4, LEAST = Integer.MIN_VALUE;
  private static final Due due = new Due();
  private static long seed = 20261117;

  /** REEL, IN, LONG, p, q of each EDIT. */
  private final List<List<int[]>> lists = new ArrayList<>(List.of(new ArrayList<>(), new ArrayList<>()));
  private final int[] lengths = {100000, 100000, 100000, 100000, 100000, 100000};
  private final int[] settings = {0, 10, 0};
  private final Object[] sheets = new Object[4];
  private int finding = 0;

  public static void main(String[] args) {
    for (int run = 0; run < RUNS; run++) new ModelTest().compareRun(run);
    due.end();
  }

  // ---- which calls

  private static int upTo(int n) {
    seed = seed * 6364136223846793005L + 1442695040888963407L;
    return (int) ((seed >>> 33) % (n + 1));
  }

  /** Mostly a number from low to high, now and then one beside them, near or as far as can be. */
  private static int from(int low, int high) {
    switch (upTo(119)) {
      case 0: case 1: return low - 1;
      case 2: case 3: return high + 1;
      case 4: return LEAST;
      case 5: return Integer.MAX_VALUE;
      default: return low + upTo(high - low);
    }
  }

  private static int frame(int run) {
    int kind = upTo(run % 3 == 0 ? 20 : 3);
    return kind == 20 ? from(0, 199999) : kind == 19 ? from(199900, 199999) : 100 + 20 * upTo(3) + (run % 2 == 0 ? 0 : upTo(40));
  }

  private static int many() {
    int kind = upTo(9);
    return kind == 0 ? from(1, 500) : kind < 6 ? 10 * (1 + upTo(2)) : 1 + upTo(40);
  }

  private void compareRun(int run) {
    CutListDesk x = new CutListDesk();
    int reels = run % 4 == 0 ? 5 : 1;
    int end = due.calls() + CALLS;
    while (due.calls() < end) {
      int kind = upTo(39);
      if (kind == 0 && run % 5 == 0) readCall(x, run);
      else if (kind < 8) change(x, run, reels);
      else if (kind < 14) sheetCall(x, run);
      else if (kind < 39) ask(x, run, reels);
      else due.is("digest in run " + run, x.digest(), digest());
    }
  }

  private void change(CutListDesk x, int run, int reels) {
    int list = from(0, 1), e = from(0, 7), in = frame(run), n = many(), p = from(0, 6), q = from(1, 6), r = from(0, reels);
    switch (upTo(12)) {
      case 0: case 1: case 2: case 3:
        due.is("edit", x.edit(list, r, in, n, p, q), edit(list, r, in, n, p, q)); break;
      case 4: case 5: {
        int l = upTo(1), o = upTo(1);
        if (lists.get(o).isEmpty()) break;
        int[] like = lists.get(o).get(upTo(lists.get(o).size() - 1));
        int longer = upTo(2) == 0 ? Math.min(500, like[2] + 1) : like[2];
        due.is("edit again", x.edit(l, like[0], like[1], longer, like[3], like[4]), edit(l, like[0], like[1], longer, like[3], like[4]));
        break;
      }
      case 6: due.is("back", x.back(list), back(list)); break;
      case 7: case 8: {
        int what = from(0, 3);
        int v = what == 0 ? in : what == 1 ? n : what == 2 ? p : q;
        due.is("trim", x.trim(list, e, what, v), trim(list, e, what, v));
        break;
      }
      case 9: {
        int what = from(0, 2);
        int v = upTo(3) == 0 ? from(0, 500) : upTo(12);
        due.is("set", x.set(what, v), set(what, v));
        break;
      }
      case 10: {
        int frames = upTo(1) == 0 ? from(1, 200000) : 100 + upTo(150);
        due.is("reel", x.reel(r, frames), reel(r, frames));
        break;
      }
      case 11: due.is("swap", x.swap(), swap()); break;
      default: due.is("read", x.read(list, e / 2), read(list, e / 2)); break;
    }
  }

  /** A SHEET of edits, whole but for the last perhaps, and read at once. */
  private void readCall(CutListDesk x, int run) {
    int list = upTo(1), s = upTo(3), n = 5 * (1 + upTo(4)) + (upTo(1) == 0 ? 0 : upTo(4));
    due.is("sheet", x.sheet(s, 2, n), sheet(s, 2, n));
    for (int i = 0; i < n; i++) {
      int v = i % 5 == 0 ? from(0, 5) : i % 5 == 1 ? frame(run) : i % 5 == 2 ? many() : i % 5 == 3 ? from(0, 6) : from(1, 6);
      due.is("put", x.put(s, 2, i, v), put(s, 2, i, v));
    }
    due.is("read", x.read(list, s), read(list, s));
    due.is("count", x.count(list), count(list));
  }

  private void sheetCall(CutListDesk x, int run) {
    int s = from(0, 3), t = from(0, 3), form = from(0, 2), i = from(0, 20), j = from(0, 20), n = from(0, 20);
    if (upTo(2) != 0 && s >= 0 && s < 4 && sheets[s] != null) form = formOf(s);
    switch (upTo(8)) {
      case 0: {
        int size = upTo(3) == 0 ? from(0, 60) : upTo(1) == 0 ? 5 + 5 * upTo(3) : 15 + upTo(10);
        due.is("sheet", x.sheet(s, form, size), sheet(s, form, size));
        break;
      }
      case 1: if (upTo(3) == 0) due.is("lose", x.lose(s), lose(s)); break;
      case 2: {
        int v = upTo(1) == 0 ? upTo(6) : (int) (seed >>> 20);
        due.is("put", x.put(s, form, i, v), put(s, form, i, v));
        break;
      }
      case 3: {
        int at = 5 * upTo(3);
        int[] items = {upTo(5), frame(run), many(), upTo(6), 1 + upTo(5)};
        for (int k = 0; k < 5; k++) due.is("put an edit", x.put(s, form, at + k, items[k]), put(s, form, at + k, items[k]));
        break;
      }
      case 4: due.is("get", x.get(s, form, i), get(s, form, i)); break;
      case 5: case 6: due.is("copy", x.copy(s, i, t, j, n), copy(s, i, t, j, n)); break;
      case 7: due.is("write", x.write(i % 2, s), write(i % 2, s)); break;
      default: due.is("finding", x.count(8), finding); break;
    }
  }

  private void ask(CutListDesk x, int run, int reels) {
    int list = from(0, 1), e = from(0, 7), r = from(0, reels), f = frame(run) + upTo(30) - 10;
    switch (upTo(13)) {
      case 0: { int w = from(0, 7); due.is("info", x.info(list, e, w), info(list, e, w)); break; }
      case 1: { int w = from(0, 3), c = upTo(1) == 0 ? from(0, 3999) : upTo(200); due.is("shows", x.shows(list, c, w), shows(list, c, w)); break; }
      case 2: case 3: { int w = from(0, 1); due.is("seen", x.seen(list, r, f, w), seen(list, r, f, w)); break; }
      case 4: { int w = from(0, 1); due.is("still", x.still(list, e, w), still(list, e, w)); break; }
      case 5: { int w = from(0, 3), c = upTo(9999999); due.is("told", x.told(c, w), told(c, w)); break; }
      case 6: {
        int h = from(0, 99), m = from(0, 59), s = upTo(1) == 0 ? 0 : from(0, 59), fr = upTo(1) == 0 ? upTo(2) : from(0, 29);
        due.is("number", x.number(h, m, s, fr), number(h, m, s, fr));
        break;
      }
      case 7: due.is("pulls", x.pulls(list), isList(list) ? pullRows(list, NONE).size() : BAD); break;
      case 8: { int w = from(0, 4); due.is("pull", x.pull(list, e / 2, w), pull(list, e / 2, w)); break; }
      case 9: due.is("waste", x.waste(list), waste(list)); break;
      case 10: { int w = from(0, 2); due.is("total", x.total(list, w), total(list, w)); break; }
      case 11: { int w = from(0, 2); due.is("compare", x.compare(e, w), compare(e, w)); due.is("gone", x.gone(), gone()); break; }
      case 12: { int i = upTo(3) == 0 ? from(-1, 9999) : from(-1, 60); due.is("anew", x.anew(i), anew(i)); break; }
      default: { int w = from(0, 1), c = from(0, 8); due.is("saving", x.saving(w), saving(w)); due.is("count", x.count(c), count(c)); break; }
    }
  }

  // ---- the model

  private static boolean in(int v, int low, int high) { return v >= low && v <= high; }
  private static boolean isList(int list) { return in(list, 0, 1); }
  private boolean isEdit(int list, int e) { return isList(list) && e >= 0 && e < lists.get(list).size(); }

  private static boolean mayBe(int[] e) {
    return in(e[0], 0, 5) && in(e[1], 0, 199999) && in(e[2], 1, 500) && in(e[3], 0, 6) && in(e[4], 1, 6);
  }

  private int edit(int list, int... e) {
    if (!isList(list) || !mayBe(e)) return BAD;
    if (lists.get(list).size() == 8) return FULL;
    lists.get(list).add(e.clone());
    return lists.get(list).size();
  }

  private int back(int list) {
    if (!isList(list)) return BAD;
    List<int[]> l = lists.get(list);
    if (l.isEmpty()) return NOT;
    l.remove(l.size() - 1);
    return l.size();
  }

  private int trim(int list, int e, int what, int v) {
    if (!isEdit(list, e) || !in(what, 0, 3)) return BAD;
    int[] old = lists.get(list).get(e), now = old.clone();
    now[what + 1] = v;
    if (!mayBe(now)) return BAD;
    lists.get(list).set(e, now);
    return old[what + 1];
  }

  private int set(int what, int v) {
    if (!in(what, 0, 2) || !in(v, 0, what == 0 ? 2 : 500)) return BAD;
    int old = settings[what];
    settings[what] = v;
    return old;
  }

  private int reel(int r, int frames) {
    if (!in(r, 0, 5) || !in(frames, 1, 200000)) return BAD;
    int old = lengths[r];
    lengths[r] = frames;
    return old;
  }

  private int swap() {
    lists.add(lists.remove(0));
    return lists.get(0).size() + lists.get(1).size();
  }

  private int read(int list, int s) {
    if (!isList(list) || !in(s, 0, 3)) return BAD;
    if (sheets[s] == null) return found(1);
    int n = 0;
    while (5 * n + 5 <= sizeOf(s)) {
      int[] e = new int[5];
      for (int k = 0; k < 5; k++) e[k] = itemOf(s, 5 * n + k);
      if (edit(list, e) < 0) break;
      n++;
    }
    return n;
  }

  private static int at(int[] e, int k) { return (int) Math.floor((e[1] * (double) e[4] + k * e[3]) / e[4] + 1e-9); }

  private int begin(int list, int e) {
    int sum = 0;
    for (int i = 0; i < e; i++) sum += lists.get(list).get(i)[2];
    return sum;
  }

  private int info(int list, int e, int what) {
    if (!isEdit(list, e) || !in(what, 0, 7)) return BAD;
    int[] of = lists.get(list).get(e);
    return what < 5 ? of[what] : what == 5 ? begin(list, e) : at(of, what == 6 ? 0 : of[2] - 1);
  }

  /** EDIT, REEL and frame of it for each frame of the cut. */
  private List<int[]> cut(int list) {
    List<int[]> all = new ArrayList<>();
    for (int e = 0; e < lists.get(list).size(); e++) {
      int[] of = lists.get(list).get(e);
      for (int k = 0; k < of[2]; k++) all.add(new int[] {e, of[0], at(of, k)});
    }
    return all;
  }

  private int shows(int list, int frame, int what) {
    if (!isList(list) || !in(frame, 0, 3999) || !in(what, 0, 3)) return BAD;
    List<int[]> all = cut(list);
    if (frame >= all.size()) return NONE;
    int[] f = all.get(frame);
    return what < 3 ? f[what] : f[2] >= lengths[f[1]] ? 1 : 0;
  }

  private int seen(int list, int reel, int frame, int what) {
    if (!isList(list) || !in(reel, 0, 5) || !in(frame, 0, 299999) || !in(what, 0, 1)) return BAD;
    List<int[]> all = cut(list);
    int times = 0, first = NONE;
    for (int i = 0; i < all.size(); i++) {
      if (all.get(i)[1] != reel || all.get(i)[2] != frame) continue;
      times++;
      if (first == NONE) first = i;
    }
    return what == 0 ? times : first;
  }

  private int still(int list, int e, int what) {
    if (!isEdit(list, e) || !in(what, 0, 1)) return BAD;
    int[] of = lists.get(list).get(e);
    int same = 0;
    BitSet shown = new BitSet();
    for (int k = 0; k < of[2]; k++) {
      if (k > 0 && at(of, k) == at(of, k - 1)) same++;
      shown.set(at(of, k));
    }
    return what == 0 ? same : shown.length() - shown.nextSetBit(0) - shown.cardinality();
  }

  private int told(int frame, int what) {
    int rate = settings[0] == 2 ? 25 : 30, left = frame, minute = 0;
    for (;; minute++) {
      int frames = 60 * rate - (settings[0] == 0 && minute % 10 != 0 ? 2 : 0);
      if (left < frames) {
        left += 60 * rate - frames;
        break;
      }
      left -= frames;
    }
    if (!in(what, 0, 3)) return BAD;
    return what == 0 ? minute / 60 : what == 1 ? minute % 60 : what == 2 ? left / rate : left % rate;
  }

  private int number(int h, int m, int s, int f) {
    int rate = settings[0] == 2 ? 25 : 30;
    if (!in(h, 0, 99) || !in(m, 0, 59) || !in(s, 0, 59) || !in(f, 0, rate - 1)) return BAD;
    if (settings[0] == 0 && m % 10 != 0 && s == 0 && f < 2) return NOT;
    int sum = s * rate + f;
    for (int minute = 1; minute <= 60 * h + m; minute++) sum += 60 * rate - (settings[0] == 0 && minute % 10 != 0 ? 2 : 0);
    return sum;
  }

  /** REEL, first, last, bits; joined two at a time until none are left to join. */
  private List<int[]> pullRows(int list, int without) {
    List<int[]> rows = new ArrayList<>();
    for (int e = 0; e < lists.get(list).size(); e++) {
      if (e == without) continue;
      int[] of = lists.get(list).get(e);
      rows.add(new int[] {of[0], Math.max(0, at(of, 0) - settings[1]), at(of, of[2] - 1) + settings[1], 1 << e});
    }
    while (joinTwo(rows)) { }
    rows.sort((a, b) -> a[0] != b[0] ? a[0] - b[0] : a[1] - b[1]);
    return rows;
  }

  private boolean joinTwo(List<int[]> rows) {
    for (int i = 0; i < rows.size(); i++) {
      for (int j = 0; j < i; j++) {
        int[] a = rows.get(i), b = rows.get(j);
        if (a[0] != b[0] || Math.max(a[1], b[1]) - Math.min(a[2], b[2]) - 1 > settings[2]) continue;
        rows.set(j, new int[] {a[0], Math.min(a[1], b[1]), Math.max(a[2], b[2]), a[3] | b[3]});
        rows.remove(i);
        return true;
      }
    }
    return false;
  }

  private int lacking(int[] row) {
    int n = 0;
    for (int f = row[1]; f <= row[2]; f++) if (f >= lengths[row[0]]) n++;
    return n;
  }

  private int pull(int list, int i, int what) {
    if (!isList(list) || !in(i, 0, 7) || !in(what, 0, 4)) return BAD;
    List<int[]> rows = pullRows(list, NONE);
    if (i >= rows.size()) return NONE;
    return what == 4 ? lacking(rows.get(i)) : rows.get(i)[what];
  }

  private BitSet pulled(int list, int without) {
    BitSet frames = new BitSet();
    for (int[] row : pullRows(list, without)) frames.set(row[0] * LIMIT + row[1], row[0] * LIMIT + row[2] + 1);
    return frames;
  }

  private int waste(int list) {
    if (!isList(list)) return BAD;
    BitSet frames = pulled(list, NONE);
    for (int[] f : cut(list)) frames.clear(f[1] * LIMIT + f[2]);
    return frames.cardinality();
  }

  private int total(int list, int what) {
    if (!isList(list) || !in(what, 0, 2)) return BAD;
    if (what == 0) return pulled(list, NONE).cardinality();
    if (what == 1) return cut(list).size();
    int n = 0;
    for (int[] row : pullRows(list, NONE)) n += lacking(row);
    return n;
  }

  private static boolean like(int[] a, int[] b) {
    return a[0] == b[0] && a[1] == b[1] && Math.abs((double) a[3] / a[4] - (double) b[3] / b[4]) < 1e-9;
  }

  private int[] partners() {
    List<int[]> was = lists.get(0), is = lists.get(1);
    int[] has = new int[is.size()];
    boolean[] taken = new boolean[was.size()];
    java.util.Arrays.fill(has, NONE);
    for (int pass = 0; pass < 2; pass++) {
      for (int e = 0; e < has.length; e++) {
        for (int o = 0; o < taken.length && has[e] == NONE; o++) {
          if (taken[o] || !like(is.get(e), was.get(o)) || pass == 0 && is.get(e)[2] != was.get(o)[2]) continue;
          has[e] = o;
          taken[o] = true;
        }
      }
    }
    return has;
  }

  private int compare(int e, int what) {
    if (!isEdit(1, e) || !in(what, 0, 2)) return BAD;
    int o = partners()[e];
    if (what == 1) return o;
    if (o == NONE) return 0;
    int later = begin(1, e) - begin(0, o);
    return what == 2 ? later : lists.get(1).get(e)[2] != lists.get(0).get(o)[2] ? 3 : later == 0 ? 1 : 2;
  }

  private int gone() {
    int bits = (1 << lists.get(0).size()) - 1;
    for (int o : partners()) if (o != NONE) bits -= 1 << o;
    return bits;
  }

  private int anew(int i) {
    if (!in(i, -1, 9999)) return BAD;
    BitSet frames = pulled(1, NONE);
    frames.andNot(pulled(0, NONE));
    for (int r = 0; r < REELS; r++) frames.clear(r * LIMIT + lengths[r], (r + 1) * LIMIT);
    if (i == NONE) return frames.cardinality();
    int at = frames.nextSetBit(0);
    for (int k = 0; k < i && at >= 0; k++) at = frames.nextSetBit(at + 1);
    return at < 0 ? NONE : at / LIMIT * 1000000 + at % LIMIT;
  }

  private int saving(int what) {
    if (!in(what, 0, 1)) return BAD;
    int best = NONE, fewest = NONE;
    for (int e = lists.get(1).size() - 1; e >= 0; e--) {
      int frames = pulled(1, e).cardinality();
      if (best != NONE && frames > fewest) continue;
      best = e;
      fewest = frames;
    }
    return what == 0 ? best : fewest;
  }

  private int found(int number) {
    finding = number;
    return -10 - number;
  }

  private int formOf(int s) { return sheets[s] instanceof byte[] ? 0 : sheets[s] instanceof short[] ? 1 : 2; }
  private int sizeOf(int s) { return java.lang.reflect.Array.getLength(sheets[s]); }
  private int itemOf(int s, int i) { return java.lang.reflect.Array.getInt(sheets[s], i); }

  private void store(int s, int i, int v) {
    if (sheets[s] instanceof byte[] b) b[i] = (byte) v;
    else if (sheets[s] instanceof short[] b) b[i] = (short) v;
    else ((int[]) sheets[s])[i] = v;
  }

  private int sheet(int s, int form, int n) {
    if (!in(s, 0, 3) || !in(form, 0, 2) || n > 60) return BAD;
    if (n < 0) return found(5);
    sheets[s] = form == 0 ? new byte[n] : form == 1 ? new short[n] : (Object) new int[n];
    return n;
  }

  private int lose(int s) {
    if (!in(s, 0, 3)) return BAD;
    if (sheets[s] == null) return found(1);
    int n = sizeOf(s);
    sheets[s] = null;
    return n;
  }

  private int fault(int s, int form, int i) {
    return sheets[s] == null ? 1 : formOf(s) != form ? 3 : i < 0 || i >= sizeOf(s) ? 2 : 0;
  }

  private int put(int s, int form, int i, int v) {
    if (!in(s, 0, 3) || !in(form, 0, 2)) return BAD;
    if (fault(s, form, i) != 0) return found(fault(s, form, i));
    store(s, i, v);
    return 1;
  }

  private int get(int s, int form, int i) {
    if (!in(s, 0, 3) || !in(form, 0, 2)) return LEAST;
    if (fault(s, form, i) == 0) return itemOf(s, i);
    found(fault(s, form, i));
    return LEAST;
  }

  private int copy(int s, int i, int t, int j, int n) {
    if (!in(s, 0, 3) || !in(t, 0, 3)) return BAD;
    if (sheets[s] == null || sheets[t] == null) return found(1);
    try {
      System.arraycopy(sheets[s], i, sheets[t], j, n);
      return 1;
    } catch (ArrayStoreException e) {
      return found(4);
    } catch (IndexOutOfBoundsException e) {
      return found(2);
    }
  }

  private int write(int list, int s) {
    if (!isList(list) || !in(s, 0, 3)) return BAD;
    if (sheets[s] == null) return found(1);
    int n = 0;
    for (int[] row : pullRows(list, NONE)) {
      for (int k = 1; k <= 2; k++) if (n < sizeOf(s)) store(s, n++, row[k]);
    }
    return n;
  }

  private int count(int what) {
    if (what == 0 || what == 1) return lists.get(what).size();
    if (what == 2 || what == 3) return cut(what - 2).size();
    if (what == 4) return pullRows(1, NONE).size();
    if (what == 6) return settings[0];
    if (what == 7) return anew(NONE);
    if (what == 8) return finding;
    if (what != 5) return BAD;
    int kept = 0;
    for (int e = 0; e < lists.get(1).size(); e++) if (compare(e, 0) == 1) kept++;
    return kept;
  }

  private long digest() {
    List<Integer> all = new ArrayList<>();
    for (int w = 0; w <= 7; w++) all.add(count(w));
    for (int list = 0; list < 2; list++) {
      for (int e = 0; e < lists.get(list).size(); e++) {
        for (int w = 0; w <= 7; w++) all.add(info(list, e, w));
        for (int w = 0; w <= 1; w++) all.add(still(list, e, w));
      }
      for (int i = 0; i <= 7; i++) for (int w = 0; w <= 4; w++) all.add(pull(list, i, w));
      all.add(waste(list));
      for (int w = 0; w <= 2; w++) all.add(total(list, w));
      for (int w = 0; w <= 3; w++) all.add(shows(list, 7, w));
      for (int w = 0; w <= 1; w++) all.add(seen(list, 1, 100, w));
    }
    for (int e = 0; e < lists.get(1).size(); e++) for (int w = 0; w <= 2; w++) all.add(compare(e, w));
    all.add(gone());
    for (int i : new int[] {NONE, 0, 25}) all.add(anew(i));
    for (int w = 0; w <= 1; w++) all.add(saving(w));
    for (int f : new int[] {1799, 1800, 17982}) for (int w = 0; w <= 3; w++) all.add(told(f, w));
    all.add(number(0, 1, 0, 0));
    all.add(number(0, 10, 0, 0));
    all.add(number(1, 2, 3, 4));
    long h = 17;
    for (int a : all) h = 31 * h + a;
    return h;
  }
}
