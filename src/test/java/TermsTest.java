import java.util.List;

/** What the document says ahead of its promises, from its first line on, each with numbers that were worked out by hand. */
public final class TermsTest {
  private static final int NONE = Twins.NONE, BAD = Twins.BAD, NOT = Twins.NOT, FULL = Twins.FULL, LEAST = Twins.LEAST;
  private static final int NEW = 0, KEPT = 1, MOVED = 2, TRIMMED = 3;
  private static final Due due = new Due();
  private static final Twins twins = new Twins(due);

  public static void main(String[] args) throws Exception {
    Sentences.run(TermsTest.class, due);
  }

  private static void areShown(CutListDesk x, int list, int reel, int... frames) {
    for (int k = 0; k < frames.length; k++) {
      due.is("reel of frame " + k, x.shows(list, k, 1), reel);
      due.is("frame " + k, x.shows(list, k, 2), frames[k]);
    }
    due.is("no more", x.shows(list, frames.length, 2), NONE);
  }

  private static void isPull(CutListDesk x, int list, int i, int... want) {
    for (int what = 0; what < want.length; what++) due.is("pull(" + list + ", " + i + ", " + what + ")", x.pull(list, i, what), want[what]);
  }

  private static void isCompared(CutListDesk x, int edit, int... want) {
    for (int what = 0; what < 3; what++) due.is("compare(" + edit + ", " + what + ")", x.compare(edit, what), want[what]);
  }

  // ---- the first lines

  /** 50 50 51 52 52 53 54, then 58 58. */
  private static CutListDesk slow() {
    CutListDesk x = new CutListDesk();
    x.set(1, 3);
    x.edit(0, 2, 50, 7, 2, 3);
    x.edit(0, 2, 58, 2, 1, 2);
    return x;
  }

  @Says("edits traced to source reels with handles, speed changes in fractions, pulled spans merged, frames counted exactly;")
  static void traced() {
    CutListDesk x = slow();
    areShown(x, 0, 2, 50, 50, 51, 52, 52, 53, 54, 58, 58);
    due.is("47 to 57 and 55 to 61 are merged", x.pulls(0), 1);
    isPull(x, 0, 0, 2, 47, 61, 3, 0);
    due.is("frames of pulls", x.total(0, 0), 15);
    due.is("frames of the cut", x.total(0, 1), 9);
    due.is("50 to 54 and 58 are shown", x.waste(0), 15 - 6);
  }

  @Says("two lists of edits, the cut as it was and as it is;")
  static void twoLists() {
    CutListDesk x = slow();
    due.is("as it is", x.edit(1, 2, 50, 7, 2, 3), 1);
    due.is("as it was", x.count(0), 2);
    x.trim(1, 0, 0, 70);
    due.is("as it is", x.info(1, 0, 1), 70);
    due.is("as it was", x.info(0, 0, 1), 50);
    due.is("both", x.swap(), 3);
    due.is("what was is", x.info(1, 0, 1), 50);
    due.is("what is was", x.info(0, 0, 1), 70);
  }

  @Says("which frame of which reel each frame of the cut shows, how often one is shown, frozen, skipped;")
  static void shownFrozenSkipped() {
    CutListDesk x = slow();
    int[] often = {2, 1, 2, 1, 1, 0, 0, 0, 2};
    for (int d = 0; d < often.length; d++) due.is("how often " + (50 + d), x.seen(0, 2, 50 + d, 0), often[d]);
    due.is("52 at first", x.seen(0, 2, 52, 1), 3);
    due.is("frozen", x.still(0, 0, 0), 2);
    due.is("none is skipped", x.still(0, 0, 1), 0);
    CutListDesk fast = new CutListDesk();
    fast.edit(1, 4, 10, 5, 5, 2);
    areShown(fast, 1, 4, 10, 12, 15, 17, 20);
    due.is("none is frozen", fast.still(1, 0, 0), 0);
    due.is("11 13 14 16 18 19 are skipped", fast.still(1, 0, 1), 6);
  }

  private static void isTold(CutListDesk x, int frame, int... want) {
    for (int what = 0; what < 4; what++) due.is("told(" + frame + ", " + what + ")", x.told(frame, what), want[what]);
    due.is("and back", x.number(want[0], want[1], want[2], want[3]), frame);
  }

  @Says("frames told as hours, minutes, seconds and frames by one of three ways to count, one of which leaves numbers out, and back;")
  static void threeWaysToCount() {
    CutListDesk x = new CutListDesk();
    isTold(x, 123456, 1, 8, 39, 10);
    due.is("a number left out", x.number(1, 8, 0, 1), NOT);
    x.set(0, 1);
    isTold(x, 123456, 1, 8, 35, 6);
    due.is("none is left out", x.number(1, 8, 0, 1), 122401);
    x.set(0, 2);
    isTold(x, 123456, 1, 22, 18, 6);
    due.is("none is left out", x.number(1, 8, 0, 1), 102001);
  }

  @Says("the spans to be pulled of each reel, with as much before and behind as is wanted, joined where they meet or are near, what a reel lacks, how much is pulled that is never shown;")
  static void toBePulled() {
    CutListDesk x = new CutListDesk();
    x.edit(0, 1, 100, 10, 1, 1);
    x.edit(0, 0, 4, 3, 1, 1);
    x.edit(0, 1, 135, 10, 1, 1);
    x.reel(1, 150);
    due.is("pulls", x.pulls(0), 3);
    isPull(x, 0, 0, 0, 0, 16, 2, 0);
    isPull(x, 0, 1, 1, 90, 119, 1, 0);
    isPull(x, 0, 2, 1, 125, 154, 4, 5);
    due.is("never shown", x.waste(0), 17 + 30 + 30 - 23);
    x.set(2, 5);
    due.is("120 to 124 are between", x.pulls(0), 2);
    isPull(x, 0, 1, 1, 90, 154, 5, 5);
    due.is("never shown", x.waste(0), 17 + 65 - 23);
    x.set(2, 0);
    x.set(1, 13);
    due.is("they meet", x.pulls(0), 2);
    isPull(x, 0, 1, 1, 87, 157, 5, 8);
  }

  /** As it was: 20 of reel 0, 30 of reel 1, 10 of reel 2, 5 of reel 3. */
  private static CutListDesk cutAnew() {
    CutListDesk x = new CutListDesk();
    int[] longs = {20, 30, 10, 5};
    for (int r = 0; r < 4; r++) x.edit(0, r, 100 * r + 100, longs[r], 1, 1);
    x.edit(1, 0, 100, 20, 1, 1);
    x.edit(1, 4, 0, 10, 1, 1);
    x.edit(1, 2, 300, 10, 3, 3);
    x.edit(1, 1, 200, 25, 1, 1);
    return x;
  }

  @Says("both cuts compared edit by edit, what is kept, moved, trimmed, new, gone, which frames must be pulled anew;")
  static void compared() {
    CutListDesk x = cutAnew();
    isCompared(x, 0, KEPT, 0, 0);
    isCompared(x, 1, NEW, NONE, 0);
    isCompared(x, 2, MOVED, 2, -20);
    isCompared(x, 3, TRIMMED, 1, 20);
    due.is("the last is gone", x.gone(), 8);
    due.is("0 to 19 of reel 4", x.anew(NONE), 20);
    for (int i = 0; i < 20; i++) due.is("anew", x.anew(i), 4000000 + i);
    due.is("no more", x.anew(20), NONE);
  }

  @Says("which edit had better not be;")
  static void hadBetterNotBe() {
    CutListDesk x = cutAnew();
    due.is("the longest pull", x.saving(0), 3);
    due.is("40, 20 and 30 frames are left", x.saving(1), 90);
  }

  @Says("what was told undone.")
  static void undone() {
    CutListDesk x = cutAnew();
    long before = x.digest();
    for (int list = 0; list < 2; list++) {
      due.is("told", x.edit(list, 5, 7, 500, 6, 1), 5);
      due.holds("it is there", x.digest() != before);
      due.is("undone", x.back(list), 4);
      due.is("as before", x.digest(), before);
    }
  }

  // ---- terms

  @Says("An EDIT is of a REEL, from a frame IN (0 to 199999) on, LONG so many frames of the cut (1 to 500), at a SPEED p by q (p 0 to 6, q 1 to 6; not in lowest terms perhaps). EDITS are one behind another: the cut begins with frame 0; frame k of an EDIT (0 on) shows frame IN and k times p by q, cut, together, of its REEL.")
  static void anEdit() {
    CutListDesk x = new CutListDesk();
    x.edit(1, 5, 40, 4, 4, 6);
    x.edit(1, 3, 70, 3, 6, 4);
    x.edit(1, 5, 9, 2, 0, 3);
    int[][] want = {{5, 40}, {5, 40}, {5, 41}, {5, 42}, {3, 70}, {3, 71}, {3, 73}, {5, 9}, {5, 9}, {NONE, NONE}};
    for (int k = 0; k < want.length; k++) {
      due.is("REEL of " + k, x.shows(1, k, 1), want[k][0]);
      due.is("frame of " + k, x.shows(1, k, 2), want[k][1]);
    }
    int[][] info = {{5, 40, 4, 4, 6, 0, 40, 42}, {3, 70, 3, 6, 4, 4, 70, 73}, {5, 9, 2, 0, 3, 7, 9, 9}};
    for (int e = 0; e < 3; e++) {
      for (int what = 0; what < 8; what++) due.is("info(1, " + e + ", " + what + ")", x.info(1, e, what), info[e][what]);
    }
  }

  @Says("COUNTING (0 to 2; 0 at first) tells a frame n as HOURS, MINUTES (0 to 59), SECONDS (0 to 59), FRAMES: 2: 25 frames a SECOND; 1: 30; 0: DROPPING: 30, but the first two FRAMES")
  static void countedOneAfterAnother() {
    int[] from = {0, 1790, 17970, 107880, 9999900};
    for (int way = 0; way < 3; way++) {
      for (int first : from) {
        CutListDesk x = new CutListDesk();
        x.set(0, way);
        int last = -1;
        for (int n = first; n < first + 100; n++) {
          int h = x.told(n, 0), m = x.told(n, 1), s = x.told(n, 2), f = x.told(n, 3);
          due.holds(n + " is told by numbers that may be", m >= 0 && m < 60 && s >= 0 && s < 60 && f >= 0 && f < (way == 2 ? 25 : 30));
          int as = (h * 60 + m) * 100000 + s * 1000 + f;
          due.holds(n + " is told behind the one ahead", as > last);
          last = as;
          if (h < 100) due.is("and back", number(way, h, m, s, f), n);
        }
      }
    }
  }

  private static int number(int way, int h, int m, int s, int f) {
    CutListDesk x = new CutListDesk();
    x.set(0, way);
    return x.number(h, m, s, f);
  }

  @Says("0: DROPPING: 30, but the first two FRAMES, 0 and 1, of SECOND 0 of each MINUTE that cannot be divided by 10 are left out: no frame has such a number.")
  static void leftOutIsToldByNone() {
    int outs = 0;
    for (int begin = 0; begin < 36000; begin += 120) {
      CutListDesk x = new CutListDesk();
      for (int n = begin; n < begin + 120; n++) {
        boolean atABegin = x.told(n, 2) == 0 && x.told(n, 3) < 2;
        if (atABegin && x.told(n, 1) % 10 != 0) outs++;
      }
    }
    due.is("frames of twenty minutes with such a number", outs, 0);
  }

  @Says("SHEETS 0 .. 3 are LOST (at first) or a row of a FORM: 0 bytes, 1 shorts, 2 ints, of 0 to 60 items (0 at first). FINDINGS (answers -10 less the number; they change nothing but count() 8): 1 NULL: the SHEET is LOST; 2 INDEX: there is no such item; 3 CAST: it has another FORM; 4 STORE: unlike FORMS; 5 SIZE: below 0.")
  static void findings() {
    Twins.Call[] calls = {x -> x.write(1, 3), x -> x.put(1, 1, 7, 0), x -> x.put(1, 2, 0, 0), x -> x.copy(0, 0, 1, 0, 1), x -> x.sheet(3, 2, -1)};
    for (int i = 0; i < calls.length; i++) {
      due.is("finding " + (i + 1), calls[i].on(Desks.SOME.desk()), -11 - i);
      twins.finds("finding " + (i + 1), Desks.SOME, i + 1, calls[i]);
    }
  }

  @Says("PULLS of a LIST: of each EDIT the SPAN of its REEL from FIRST less HANDLE (0 to 500; 10 at first), 0 at least, to LAST and HANDLE together.")
  static void eachEditHasASpan() {
    for (int handle : new int[] {0, 10, 500}) {
      for (int list = 0; list < 2; list++) {
        CutListDesk x = Desks.FULL.desk();
        x.set(1, handle);
        int bits = 0;
        for (int i = 0; i < 8; i++) {
          int bit = x.pull(list, i, 3);
          due.is("a pull of one edit", Integer.bitCount(bit), 1);
          int e = Integer.numberOfTrailingZeros(bit);
          bits |= bit;
          isPull(x, list, i, x.info(list, e, 0), Math.max(0, x.info(list, e, 6) - handle), x.info(list, e, 7) + handle);
        }
        due.is("all have one", bits, 255);
      }
    }
  }

  @Says("Of each REEL SPANS are joined as long as any two have a frame in common, or are no more than NEAR frames (0 to 500; 0 at first) apart (that is, so many frames lie between them; 0: next to each other).")
  static void joined() {
    for (int near = 0; near < 5; near++) {
      for (int to = 90; to <= 110; to++) {
        CutListDesk x = new CutListDesk();
        x.set(1, 0);
        x.set(2, near);
        x.edit(1, 3, 100, 1, 1, 1);
        x.edit(1, 3, to, 1, 1, 1);
        int between = Math.abs(to - 100) - 1;
        due.is("100 and " + to + ", NEAR " + near, x.pulls(1), between <= near ? 1 : 2);
        due.is("frames", x.total(1, 0), between <= near ? between + 2 : 2);
      }
    }
  }

  @Says("Both cuts are COMPARED: EDITS of LIST 1, in order, each with the first EDIT of LIST 0 that is LIKE it, as LONG, and not yet taken; then those of LIST 1 that have none, in order, each with the first that is LIKE it, and not yet taken.")
  static void comparedInOrder() {
    CutListDesk x = new CutListDesk();
    for (int many : new int[] {10, 20, 10}) x.edit(0, 1, 50, many, 1, 2);
    for (int many : new int[] {5, 10, 7, 10, 10}) x.edit(1, 1, 50, many, 2, 4);
    isCompared(x, 0, TRIMMED, 1, -10);
    isCompared(x, 1, MOVED, 0, 5);
    isCompared(x, 2, NEW, NONE, 0);
    isCompared(x, 3, MOVED, 2, -8);
    isCompared(x, 4, NEW, NONE, 0);
    due.is("none is gone", x.gone(), 0);
  }

  @Says("Of an EDIT of LIST 1: 0 NEW: it has none; 1 KEPT: it has one as LONG, that begins at the same frame of the cut; 2 MOVED: one as LONG, that does not; 3 TRIMMED: one that is not as LONG. EDITS of LIST 0 that none has are GONE. ANEW are frames of PULLS of LIST 1 that no PULL of LIST 0 has (without what the REEL lacks; by REELS, in order).")
  static void kinds() {
    CutListDesk x = cutAnew();
    x.swap();
    isCompared(x, 0, KEPT, 0, 0);
    isCompared(x, 1, TRIMMED, 3, -20);
    isCompared(x, 2, MOVED, 2, 20);
    isCompared(x, 3, NEW, NONE, 0);
    due.is("that of reel 4 is gone", x.gone(), 2);
    x.reel(3, 412);
    due.is("235 to 239 of reel 1, 390 to 411 of reel 3", x.anew(NONE), 5 + 22);
    due.is("the first", x.anew(0), 1000235);
    due.is("the last of reel 1", x.anew(4), 1000239);
    due.is("the first of reel 3", x.anew(5), 3000390);
    due.is("the last", x.anew(26), 3000411);
    due.is("no more", x.anew(27), NONE);
  }

  @Says("SAVING: the EDIT of LIST 1 without which PULLS of that have fewest frames, of like ones the least.")
  static void savingWhatLiesBetween() {
    CutListDesk x = new CutListDesk();
    x.set(1, 0);
    x.set(2, 500);
    for (int in : new int[] {100, 601, 1102}) x.edit(1, 0, in, 1, 1, 1);
    due.is("one pull", x.total(1, 0), 1003);
    due.is("without the one between", x.saving(0), 1);
    due.is("two frames", x.saving(1), 2);
    x.edit(0, 0, 100, 500, 1, 1);
    due.is("LIST 0 is not looked at", x.saving(1), 2);
    x.trim(1, 1, 0, 600);
    due.is("601 is too far now", x.total(1, 0), 501 + 1);
    due.is("100 and 600 save alike", x.saving(0), 0);
    due.is("then", x.saving(1), 2);
  }

  /** Each call with its refusals: how it is called, what it answers, and what it is called with. */
  @Says("Refusals, the first that fits, in the order told at each act: BAD -2 (a number not as told, no such thing), NULL, NOT -3 (as told), FULL -4, other FINDINGS. They change nothing (FINDINGS but count() 8).")
  static void refusals() {
    refused(Desks.FULL, FULL, x -> x.edit(0, 0, 0, 1, 1, 1), x -> x.edit(1, 5, 9, 9, 1, 1));
    refused(Desks.NEW, NOT, x -> x.back(0), x -> x.back(1), x -> x.number(0, 1, 0, 0), x -> x.number(99, 59, 0, 1));
    refused(Desks.SOME, BAD, x -> x.edit(2, 0, 0, 1, 1, 1), x -> x.back(2), x -> x.trim(0, 3, 0, 0), x -> x.trim(0, 0, 1, 0), x -> x.set(3, 0),
        x -> x.set(0, 3), x -> x.reel(6, 1), x -> x.reel(0, 0), x -> x.read(2, 0), x -> x.info(0, 3, 0), x -> x.shows(0, 4000, 0),
        x -> x.seen(0, 6, 0, 0), x -> x.still(0, 3, 0), x -> x.told(10000000, 0), x -> x.number(100, 0, 0, 0), x -> x.pulls(2),
        x -> x.pull(0, 8, 0), x -> x.waste(-1), x -> x.total(0, 3), x -> x.compare(4, 0), x -> x.anew(10000), x -> x.saving(2),
        x -> x.sheet(0, 3, 0), x -> x.lose(4), x -> x.put(4, 0, 0, 0), x -> x.copy(0, 0, 4, 0, 0), x -> x.write(0, 4), x -> x.count(9));
    refused(Desks.SOME, LEAST, x -> x.get(4, 0, 0), x -> x.get(0, 3, 0));
  }

  private static void refused(Desks from, long answer, Twins.Call... calls) {
    for (int i = 0; i < calls.length; i++) twins.leaves("call " + i + " refused by " + answer, from, answer, calls[i]);
  }

  // ---- promises whose sentences had a test in parts alone

  @Says("No EDITS, LENGTHS 100000, COUNTING 0, HANDLE 10, NEAR 0; all SHEETS are LOST.")
  static void newObject() {
    CutListDesk x = new CutListDesk();
    for (int what = 0; what <= 8; what++) due.is("count " + what, x.count(what), 0);
    for (int r = 0; r < 6; r++) due.is("LENGTH", x.reel(r, 1), 100000);
    int[] settings = {0, 10, 0};
    for (int what = 0; what < 3; what++) due.is("set " + what, x.set(what, 1), settings[what]);
    for (int s = 0; s < 4; s++) due.is("SHEET " + s, x.lose(s), -11);
    CutListDesk other = new CutListDesk();
    due.is("objects are apart", other.set(1, 7), 10);
    due.is("and so are REELS", other.reel(0, 7), 100000);
  }

  @Says("Of an EDIT frames of the cut that show the same as the one ahead of them (what = 0), frames of the REEL between FIRST and LAST that it does not show (1). BAD.")
  static void stillAtEachSpeed() {
    for (int p = 0; p <= 6; p++) {
      for (int q = 1; q <= 6; q++) {
        CutListDesk x = new CutListDesk();
        x.edit(0, 5, 77, 13, p, q);
        int same = 0, skipped = 0;
        for (int k = 1; k < 13; k++) {
          int step = x.shows(0, k, 2) - x.shows(0, k - 1, 2);
          same += step == 0 ? 1 : 0;
          skipped += Math.max(0, step - 1);
        }
        due.is("the same at " + p + " by " + q, x.still(0, 0, 0), same);
        due.is("not shown at " + p + " by " + q, x.still(0, 0, 1), skipped);
      }
    }
  }

  private static long digestOf(int[]... parts) {
    long h = 17;
    for (int[] part : parts) {
      for (int each : part) h = 31 * h + each;
    }
    return h;
  }

  private static final int[] NO_PULL = {-1, -1, -1, -1, -1};
  private static final int[] TOLD = {0, 0, 59, 29, 0, 1, 0, 2, 0, 10, 0, 0, -3, 17982, 111582};

  @Says("h is 17; h becomes 31 h and each of: count() 0 to 7; of LISTS 0, 1 of EDITS info(the LIST, it, 0 to 7), still(the LIST, it, 0 and 1), then of 0 to 7 pull(the LIST, it, 0 to 4), waste(), total(the LIST, 0 to 2), shows(the LIST, 7, 0 to 3), seen(the LIST, 1, 100, 0 and 1); of EDITS of LIST 1 compare() 0 to 2; gone(), anew(NONE), anew(0), anew(25), saving() 0, 1; told(1799, 0 to 3), told(1800, 0 to 3), told(17982, 0 to 3); number(0, 1, 0, 0), number(0, 10, 0, 0), number(1, 2, 3, 4); as longs that wrap.")
  static void digestOfNone() {
    int[] counts = new int[8];
    int[] rest = {0, 0, 0, 0, -1, -1, -1, -1, 0, -1};
    int[] both = {0, 0, -1, -1, -1, -1};
    int[] p = NO_PULL;
    due.is("no edits", new CutListDesk().digest(), digestOf(counts, p, p, p, p, p, p, p, p, rest, p, p, p, p, p, p, p, p, rest, both, TOLD));
  }

  @Says("h is 17; h becomes 31 h and each of: count() 0 to 7; of LISTS 0, 1 of EDITS info(the LIST, it, 0 to 7), still(the LIST, it, 0 and 1), then of 0 to 7 pull(the LIST, it, 0 to 4), waste(), total(the LIST, 0 to 2)")
  static void digestOfSome() {
    CutListDesk x = new CutListDesk();
    x.edit(0, 1, 100, 8, 1, 2);
    x.edit(1, 1, 95, 3, 5, 1);
    x.edit(1, 1, 100, 8, 2, 4);
    x.edit(1, 2, 0, 5, 4, 1);
    x.reel(2, 24);
    int[] counts = {1, 3, 8, 16, 2, 0, 0, 24 + 5 + 2};
    int[] was = {1, 100, 8, 1, 2, 0, 100, 103, 4, 0};
    int[] wasPull = {1, 90, 113, 1, 0};
    int[] wasRest = {20, 24, 8, 0, 0, 1, 103, 0, 2, 0};
    int[] is = {1, 95, 3, 5, 1, 0, 95, 105, 0, 8, 1, 100, 8, 2, 4, 3, 100, 103, 4, 0, 2, 0, 5, 4, 1, 11, 0, 16, 0, 12};
    int[] isPulls = {1, 85, 115, 3, 0, 2, 0, 26, 4, 3};
    int[] isRest = {31 + 27 - 6 - 5, 31 + 27, 16, 3, 1, 1, 102, 0, 3, 1};
    int[] both = {0, -1, 0, 2, 0, 3, 0, -1, 0, 0, 31, 1000085, 2000018, 2, 31};
    int[] p = NO_PULL;
    due.is("digest", x.digest(), digestOf(counts, was, wasPull, p, p, p, p, p, p, p, wasRest, is, isPulls, p, p, p, p, p, p, isRest, both, TOLD));
  }

  @Says("An object is used for at most 512 calls after it has been made; what later calls answer is free.")
  static void laterCallsEndAllTheSame() {
    CutListDesk x = Desks.FULL.desk();
    for (int call = 0; call < 2000; call++) x.seen(call % 2, call % 6, call, 1);
    List<Long> seen = Desks.look(x);
    due.holds("they are answered", !seen.isEmpty());
  }
}
