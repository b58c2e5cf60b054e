/** The bounds of promises 15 to 18, sentence by sentence: pulls, pull, waste, total. */
public final class PullBoundsTest {
  private static final int BAD = Twins.BAD, NONE = Twins.NONE;
  private static final Due due = new Due();
  private static final Twins twins = new Twins(due);

  public static void main(String[] args) throws Exception {
    Sentences.run(PullBoundsTest.class, due);
  }

  /** EDITS of LIST 1 at full speed, all of REEL 3, each told by IN and LONG. */
  private static CutListDesk desk(int handle, int near, int... edits) {
    CutListDesk x = new CutListDesk();
    x.set(1, handle);
    x.set(2, near);
    for (int i = 0; i + 1 < edits.length; i += 2) x.edit(1, 3, edits[i], edits[i + 1], 1, 1);
    return x;
  }

  private static void isSpan(String what, CutListDesk x, int i, int first, int last, int bits) {
    due.is(what + ": first", x.pull(1, i, 1), first);
    due.is(what + ": last", x.pull(1, i, 2), last);
    due.is(what + ": edits", x.pull(1, i, 3), bits);
  }

  // ---- 15 pulls

  @Says("How many PULLS. BAD.")
  static void pullsList() {
    twins.range(Desks.SOME, 0, 3, 1, 4, (x, v) -> x.pulls(v));
  }

  @Says("How many PULLS. BAD.")
  static void pullsOfNoneAndOfEight() {
    for (int list = 0; list < 2; list++) {
      int of = list;
      twins.leaves("no edits", Desks.NEW, 0, x -> x.pulls(of));
      twins.leaves("eight apart", Desks.FULL, 8, x -> x.pulls(of));
    }
    CutListDesk x = new CutListDesk();
    for (int e = 0; e < 8; e++) x.edit(0, 2, 9, 9, 1, 1);
    due.is("eight as one", x.pulls(0), 1);
    due.is("of all", x.pull(0, 0, 3), 255);
  }

  // ---- 16 pull

  @Says("EDITS that it is of, as bits (3), LACKING (4); NONE. BAD.")
  static void pullList() {
    twins.range(Desks.SOME, 0, 1, 1, 0, (x, v) -> x.pull(v, 0, 0));
  }

  @Says("Of the i-th (0 to 7)")
  static void pullIndex() {
    twins.range(Desks.FULL, 0, 990, 7, 25990, (x, v) -> x.pull(1, v, 1));
    twins.range(Desks.SOME, 0, 93, 7, NONE, (x, v) -> x.pull(0, v, 1));
    twins.range(Desks.NEW, 0, NONE, 7, NONE, (x, v) -> x.pull(0, v, 1));
  }

  @Says("the REEL (what = 0), the first frame (1), the last (2), EDITS that it is of, as bits (3), LACKING (4)")
  static void pullWhat() {
    twins.range(Desks.SOME, 0, 5, 4, 46, (x, v) -> x.pull(1, 3, v));
    int[] want = {5, 199983, 200045, 8, 46};
    for (int what = 0; what < 5; what++) {
      int of = what;
      twins.leaves("what " + what, Desks.SOME, want[what], x -> x.pull(1, 3, of));
    }
  }

  @Says("EDITS that it is of, as bits (3), LACKING (4); NONE. BAD.")
  static void pullNone() {
    for (int what = 0; what < 5; what++) {
      int of = what;
      twins.leaves("behind the last", Desks.SOME, NONE, x -> x.pull(0, 3, of));
      twins.leaves("of list 1", Desks.SOME, NONE, x -> x.pull(1, 4, of));
      twins.leaves("no edits", Desks.NEW, NONE, x -> x.pull(1, 0, of));
    }
  }

  @Says("Refusals, the first that fits, in the order told at each act: BAD -2")
  static void pullBadAheadOfNone() {
    twins.beside(Desks.NEW, 0, 1, BAD, (x, v) -> x.pull(v, 0, 0));
    twins.beside(Desks.NEW, 0, 7, BAD, (x, v) -> x.pull(0, v, 0));
    twins.beside(Desks.NEW, 0, 4, BAD, (x, v) -> x.pull(0, 7, v));
  }

  @Says("from FIRST less HANDLE (0 to 500; 10 at first), 0 at least")
  static void pullBeginsAt0AtLeast() {
    isSpan("HANDLE is one less than FIRST", desk(49, 0, 50, 10), 0, 1, 108, 1);
    isSpan("HANDLE is FIRST", desk(50, 0, 50, 10), 0, 0, 109, 1);
    isSpan("HANDLE is one more than FIRST", desk(51, 0, 50, 10), 0, 0, 110, 1);
    isSpan("FIRST is 0", desk(500, 0, 0, 1), 0, 0, 500, 1);
  }

  @Says("from FIRST less HANDLE (0 to 500; 10 at first), 0 at least, to LAST and HANDLE together")
  static void pullWithLeastAndMostHandle() {
    isSpan("none", desk(0, 0, 199999, 500), 0, 199999, 200498, 1);
    isSpan("500", desk(500, 0, 199999, 500), 0, 199499, 200998, 1);
    isSpan("one frame", desk(0, 0, 0, 1), 0, 0, 0, 1);
  }

  @Says("joined as long as any two have a frame in common")
  static void pullWithAFrameInCommon() {
    isSpan("one in common", desk(0, 0, 100, 10, 109, 10), 0, 100, 118, 3);
    isSpan("one in common, told the other way", desk(0, 0, 109, 10, 100, 10), 0, 100, 118, 3);
    isSpan("the same", desk(0, 0, 100, 10, 100, 10), 0, 100, 109, 3);
    isSpan("one inside the other", desk(0, 0, 100, 10, 105, 1), 0, 100, 109, 3);
    isSpan("up to the same last", desk(0, 0, 100, 10, 105, 5), 0, 100, 109, 3);
    isSpan("from the same first", desk(0, 0, 100, 3, 100, 10), 0, 100, 109, 3);
  }

  @Says("so many frames lie between them; 0: next to each other")
  static void pullNextToEachOther() {
    due.is("next to each other", desk(0, 0, 100, 10, 110, 10).pulls(1), 1);
    due.is("one between", desk(0, 0, 100, 10, 111, 10).pulls(1), 2);
    due.is("told the other way", desk(0, 0, 110, 10, 100, 10).pulls(1), 1);
    due.is("one between, told the other way", desk(0, 0, 111, 10, 100, 10).pulls(1), 2);
    due.is("by HANDLES", desk(5, 0, 100, 10, 120, 10).pulls(1), 1);
    due.is("one between HANDLES", desk(5, 0, 100, 10, 121, 10).pulls(1), 2);
  }

  @Says("or are no more than NEAR frames (0 to 500; 0 at first) apart")
  static void pullNear() {
    for (int near : new int[] {0, 1, 2, 499, 500}) {
      CutListDesk x = desk(0, near, 100, 10, 110 + near, 10);
      due.is("so many between", x.pulls(1), 1);
      isSpan("what lies between is pulled", x, 0, 100, 119 + near, 3);
      x.trim(1, 1, 0, 111 + near);
      due.is("one more between", x.pulls(1), 2);
      isSpan("the first", x, 0, 100, 109, 1);
      isSpan("the second", x, 1, 111 + near, 120 + near, 2);
    }
  }

  @Says("Of each REEL SPANS are joined as long as any two have a frame in common")
  static void pullOfOneReelAlone() {
    CutListDesk x = new CutListDesk();
    x.set(2, 500);
    for (int r = 5; r >= 0; r--) x.edit(1, r, 100, 10, 1, 1);
    due.is("the same frames of six reels", x.pulls(1), 6);
    for (int r = 0; r < 6; r++) {
      due.is("reel", x.pull(1, r, 0), r);
      due.is("its edit", x.pull(1, r, 3), 1 << 5 - r);
    }
  }

  @Says("joined as long as any two have a frame in common, or are no more than NEAR frames")
  static void pullJoinedOnAndOn() {
    int[] apart = new int[16];
    for (int e = 0; e < 8; e++) {
      apart[2 * e] = 100 + 12 * (e * 3 % 8);
      apart[2 * e + 1] = 10;
    }
    due.is("two between each", desk(0, 1, apart).pulls(1), 8);
    isSpan("each is near the next", desk(0, 2, apart), 0, 100, 193, 255);
    isSpan("the last comes between", desk(0, 0, 100, 10, 130, 10, 110, 20), 0, 100, 139, 7);
    isSpan("a long one ahead", desk(0, 0, 100, 100, 110, 5, 200, 5), 0, 100, 204, 7);
    due.is("near what is joined, not what is behind", desk(0, 5, 100, 100, 110, 5, 206, 5).pulls(1), 2);
  }

  @Says("PULLS are told by REELS, of one REEL by their first frames.")
  static void pullBehindJoinedOnes() {
    CutListDesk x = desk(0, 0, 100, 10, 110, 10, 130, 10, 140, 10, 160, 1);
    isSpan("joined", x, 0, 100, 119, 3);
    isSpan("joined behind it", x, 1, 130, 149, 12);
    isSpan("alone behind both", x, 2, 160, 160, 16);
    due.is("no more", x.pull(1, 3, 0), NONE);
    x.edit(1, 4, 5, 1, 1, 1);
    due.is("the next REEL", x.pull(1, 3, 0), 4);
    isSpan("of it", x, 3, 5, 5, 32);
  }

  @Says("PULLS are told by REELS, of one REEL by their first frames.")
  static void pullInOrder() {
    CutListDesk x = new CutListDesk();
    int[][] edits = {{5, 0}, {0, 199999}, {0, 0}, {3, 700}, {3, 500}, {3, 600}, {5, 199999}, {2, 9}};
    for (int[] e : edits) x.edit(1, e[0], e[1], 1, 1, 1);
    int[] bits = {4, 2, 128, 16, 32, 8, 1, 64};
    for (int i = 0; i < 8; i++) due.is("pull " + i, x.pull(1, i, 3), bits[i]);
  }

  @Says("LACKING of a PULL: frames of it that the REEL lacks.")
  static void pullLacking() {
    CutListDesk x = desk(10, 0, 100, 10);
    int[][] lengths = {{1, 30}, {89, 30}, {90, 30}, {91, 29}, {119, 1}, {120, 0}, {121, 0}, {200000, 0}};
    for (int[] l : lengths) {
      x.reel(3, l[0]);
      due.is("lacking of " + l[0], x.pull(1, 0, 4), l[1]);
      due.is("of all", x.total(1, 2), l[1]);
      isSpan("the pull is as it was", x, 0, 90, 119, 1);
    }
    CutListDesk from0 = desk(0, 0, 0, 5);
    from0.reel(3, 1);
    due.is("a reel of one frame", from0.pull(1, 0, 4), 4);
  }

  // ---- 17 waste

  @Says("WASTE. BAD.")
  static void wasteList() {
    twins.range(Desks.SOME, 0, 87 - 36, 1, 148 - 45, (x, v) -> x.waste(v));
    twins.leaves("list 0", Desks.SOME, 87 - 36, x -> x.waste(0));
    twins.leaves("list 1", Desks.SOME, 148 - 45, x -> x.waste(1));
  }

  @Says("WASTE of a LIST: frames of all PULLS that none of its EDITS shows (each once).")
  static void wasteOfNone() {
    twins.leaves("list 0", Desks.NEW, 0, x -> x.waste(0));
    twins.leaves("list 1", Desks.NEW, 0, x -> x.waste(1));
    due.is("all are shown", desk(0, 0, 100, 10, 110, 10).waste(1), 0);
    due.is("one frame", desk(0, 0, 0, 1).waste(1), 0);
  }

  @Says("WASTE of a LIST: frames of all PULLS that none of its EDITS shows (each once).")
  static void wasteEachOnce() {
    due.is("shown twice", desk(10, 0, 100, 10, 100, 10).waste(1), 20);
    due.is("shown in part twice", desk(10, 0, 100, 10, 105, 10).waste(1), 20);
    due.is("between near ones", desk(0, 5, 100, 10, 115, 10).waste(1), 5);
    due.is("what the HANDLE of one has, another shows", desk(10, 0, 100, 10, 110, 10).waste(1), 20);
    CutListDesk x = desk(0, 0, 0, 1);
    x.trim(1, 0, 1, 500);
    x.trim(1, 0, 2, 0);
    due.is("frozen", x.waste(1), 0);
    x.trim(1, 0, 2, 6);
    due.is("skipped", x.waste(1), 5 * 499);
    for (int e = 1; e < 6; e++) x.edit(1, 3, e, 499, 6, 1);
    due.is("shown by others", x.waste(1), 0);
    for (int e = 6; e < 8; e++) x.edit(1, 3, 0, 500, 6, 1);
    due.is("eight edits", x.waste(1), 0);
  }

  @Says("WASTE of a LIST: frames of all PULLS that none of its EDITS shows (each once).")
  static void wasteOfFull() {
    CutListDesk x = new CutListDesk();
    x.set(1, 500);
    for (int e = 0; e < 8; e++) x.edit(0, e % 6, 10000 * e + 500, 500, 6, 1);
    due.is("most of all", x.waste(0), 8 * (2995 + 1000 - 500));
  }

  @Says("LACKING of a PULL: frames of it that the REEL lacks. WASTE of a LIST: frames of all PULLS")
  static void wasteWhereTheReelLacks() {
    CutListDesk x = desk(10, 0, 100, 10);
    x.reel(3, 1);
    due.is("waste", x.waste(1), 20);
  }

  // ---- 18 total

  @Says("Frames of all PULLS (what = 0), of the cut (1), LACKING of all (2). BAD.")
  static void totalList() {
    twins.range(Desks.SOME, 0, 42, 1, 52, (x, v) -> x.total(v, 1));
  }

  @Says("Frames of all PULLS (what = 0), of the cut (1), LACKING of all (2). BAD.")
  static void totalWhat() {
    twins.range(Desks.SOME, 0, 34 + 33 + 20, 2, 0, (x, v) -> x.total(0, v));
    int[] want = {33 + 39 + 13 + 63, 52, 46};
    for (int what = 0; what < 3; what++) {
      int of = what;
      twins.leaves("what " + what, Desks.SOME, want[what], x -> x.total(1, of));
    }
  }

  @Says("Frames of all PULLS (what = 0), of the cut (1), LACKING of all (2). BAD.")
  static void totalOfNone() {
    for (int list = 0; list < 2; list++) {
      for (int what = 0; what < 3; what++) {
        int of = list, which = what;
        twins.leaves("no edits", Desks.NEW, 0, x -> x.total(of, which));
      }
    }
  }

  @Says("Frames of all PULLS (what = 0), of the cut (1), LACKING of all (2). BAD.")
  static void totalOfFull() {
    CutListDesk x = new CutListDesk();
    x.set(1, 500);
    for (int e = 0; e < 8; e++) {
      x.edit(1, e % 6, 10000 * e + 500, 500, 6, 1);
      x.reel(e % 6, 1);
    }
    due.is("pulls", x.total(1, 0), 8 * 3995);
    due.is("the cut", x.total(1, 1), 4000);
    due.is("lacking, but the first frames of six reels", x.total(1, 2), 8 * 3995 - 1);
    for (int e = 0; e < 8; e++) x.trim(1, e, 1, 1);
    due.is("the shortest cut of eight", x.total(1, 1), 8);
  }
}
