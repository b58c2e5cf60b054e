/** The bounds of promises 19 to 22, sentence by sentence: compare, gone, anew, saving. */
public final class BothBoundsTest {
  private static final int BAD = Twins.BAD, NONE = Twins.NONE;
  private static final int NEW = 0, KEPT = 1, MOVED = 2, TRIMMED = 3;
  private static final Due due = new Due();
  private static final Twins twins = new Twins(due);

  public static void main(String[] args) throws Exception {
    Sentences.run(BothBoundsTest.class, due);
  }

  private static void isKind(CutListDesk x, int edit, int kind, int other, int later) {
    due.is("compare(" + edit + ", 0)", x.compare(edit, 0), kind);
    due.is("compare(" + edit + ", 1)", x.compare(edit, 1), other);
    due.is("compare(" + edit + ", 2)", x.compare(edit, 2), later);
  }

  // ---- 19 compare

  @Says("by how many frames of the cut it begins later (2; 0: NEW). BAD.")
  static void compareEdit() {
    twins.range(Desks.SOME, 0, 1, 3, NONE, (x, v) -> x.compare(v, 1));
    twins.range(Desks.FULL, 0, NONE, 7, NONE, (x, v) -> x.compare(v, 1));
  }

  @Says("Of an EDIT of LIST 1: 0 to 3 (what = 0)")
  static void compareWithoutEdits() {
    twins.bad("no edits", Desks.NEW, x -> x.compare(0, 0));
    CutListDesk x = new CutListDesk();
    x.edit(0, 0, 0, 1, 1, 1);
    due.is("an edit of list 0 alone", x.compare(0, 0), BAD);
    x.edit(1, 0, 0, 1, 1, 1);
    x.edit(0, 0, 0, 1, 1, 1);
    due.is("a second of list 0 alone", x.compare(1, 0), BAD);
  }

  @Says("0 to 3 (what = 0), the EDIT of LIST 0 (1; NONE), by how many frames of the cut it begins later (2; 0: NEW). BAD.")
  static void compareWhat() {
    twins.range(Desks.SOME, 0, MOVED, 2, -20, (x, v) -> x.compare(0, v));
    int[][] want = {{MOVED, 1, -20}, {TRIMMED, 0, 10}, {NEW, NONE, 0}, {NEW, NONE, 0}};
    for (int e = 0; e < 4; e++) {
      for (int what = 0; what < 3; what++) {
        int edit = e, of = what;
        twins.leaves("edit " + e + ", what " + what, Desks.SOME, want[e][what], x -> x.compare(edit, of));
      }
    }
  }

  @Says("0 NEW: it has none")
  static void compareNewAgainstNone() {
    CutListDesk x = new CutListDesk();
    for (int e = 0; e < 8; e++) x.edit(1, 0, 9, 9, 1, 1);
    for (int e = 0; e < 8; e++) isKind(x, e, NEW, NONE, 0);
    due.is("none is kept", x.count(5), 0);
  }

  @Says("1 KEPT: it has one as LONG, that begins at the same frame of the cut")
  static void compareKeptInFull() {
    CutListDesk x = new CutListDesk();
    for (int e = 0; e < 8; e++) {
      x.edit(0, e % 6, 199999, 500, e % 4, 3);
      x.edit(1, e % 6, 199999, 500, e % 4 * 2, 6);
    }
    for (int e = 0; e < 8; e++) isKind(x, e, KEPT, e, 0);
    due.is("all are kept", x.count(5), 8);
    due.is("none is gone", x.gone(), 0);
  }

  @Says("1 KEPT: it has one as LONG, that begins at the same frame of the cut")
  static void compareKeptAtAnotherPlace() {
    CutListDesk x = new CutListDesk();
    x.edit(0, 0, 7, 20, 1, 1);
    x.edit(0, 1, 50, 10, 1, 1);
    for (int e = 0; e < 7; e++) x.edit(1, 2, e, e < 6 ? 1 : 14, 1, 1);
    x.edit(1, 1, 50, 10, 1, 1);
    isKind(x, 7, KEPT, 1, 0);
    due.is("kept", x.count(5), 1);
    x.swap();
    isKind(x, 1, KEPT, 7, 0);
    due.is("kept the other way", x.count(5), 1);
  }

  @Says("2 MOVED: one as LONG, that does not")
  static void compareMovedByOne() {
    CutListDesk x = new CutListDesk();
    x.edit(0, 5, 0, 2, 1, 1);
    x.edit(0, 1, 50, 10, 1, 1);
    x.edit(1, 5, 0, 1, 1, 1);
    x.edit(1, 1, 50, 10, 1, 1);
    isKind(x, 1, MOVED, 1, -1);
    x.trim(1, 0, 1, 2);
    isKind(x, 1, KEPT, 1, 0);
    x.trim(1, 0, 1, 3);
    isKind(x, 1, MOVED, 1, 1);
  }

  @Says("by how many frames of the cut it begins later")
  static void compareFarthest() {
    CutListDesk x = new CutListDesk();
    x.edit(0, 1, 50, 10, 1, 1);
    for (int e = 0; e < 7; e++) x.edit(1, 0, e, 500, 1, 1);
    x.edit(1, 1, 50, 10, 1, 1);
    isKind(x, 7, MOVED, 0, 3500);
    x.swap();
    isKind(x, 0, MOVED, 7, -3500);
  }

  @Says("3 TRIMMED: one that is not as LONG")
  static void compareTrimmedByOne() {
    CutListDesk x = new CutListDesk();
    x.edit(0, 1, 50, 10, 1, 1);
    int[][] longs = {{1, TRIMMED}, {9, TRIMMED}, {10, KEPT}, {11, TRIMMED}, {500, TRIMMED}};
    x.edit(1, 1, 50, 10, 1, 1);
    for (int[] l : longs) {
      x.trim(1, 0, 1, l[0]);
      isKind(x, 0, l[1], 0, 0);
      due.is("kept", x.count(5), l[1] == KEPT ? 1 : 0);
    }
  }

  @Says("Two EDITS are LIKE, if they are of one REEL, with one IN, and of SPEEDS that are as much.")
  static void compareLikeSpeeds() {
    for (int p = 0; p <= 6; p++) {
      for (int q = 1; q <= 6; q++) {
        CutListDesk x = new CutListDesk();
        x.edit(0, 1, 50, 10, 2, 3);
        x.edit(1, 1, 50, 10, p, q);
        due.is("2 by 3 against " + p + " by " + q, x.compare(0, 0), 3 * p == 2 * q ? KEPT : NEW);
        x.trim(0, 0, 2, 0);
        due.is("0 by 3 against " + p + " by " + q, x.compare(0, 0), p == 0 ? KEPT : NEW);
      }
    }
  }

  @Says("Two EDITS are LIKE, if they are of one REEL, with one IN")
  static void compareLikeReelAndIn() {
    for (int in : new int[] {0, 199999}) {
      CutListDesk x = new CutListDesk();
      x.edit(0, 5, in, 10, 1, 1);
      x.edit(1, 5, in, 10, 1, 1);
      x.edit(1, 4, in, 10, 1, 1);
      isKind(x, 0, KEPT, 0, 0);
      isKind(x, 1, NEW, NONE, 0);
      x.trim(1, 0, 0, in == 0 ? 1 : in - 1);
      isKind(x, 0, NEW, NONE, 0);
    }
  }

  @Says("each with the first EDIT of LIST 0 that is LIKE it, as LONG, and not yet taken")
  static void compareFirstNotTaken() {
    CutListDesk x = new CutListDesk();
    for (int e = 0; e < 8; e++) x.edit(0, 1, 50, 10, 1, 1);
    for (int e = 0; e < 8; e++) x.edit(1, 1, 50, 10, 1, 1);
    for (int e = 0; e < 8; e++) isKind(x, e, KEPT, e, 0);
    x.back(0);
    isKind(x, 7, NEW, NONE, 0);
    isKind(x, 6, KEPT, 6, 0);
  }

  @Says("then those of LIST 1 that have none, in order, each with the first that is LIKE it, and not yet taken")
  static void compareThenTheOthers() {
    CutListDesk x = new CutListDesk();
    for (int e = 0; e < 8; e++) x.edit(0, 1, 50, 10 + e, 1, 1);
    for (int e = 0; e < 7; e++) x.edit(1, 1, 50, 100 + e, 1, 1);
    x.edit(1, 1, 50, 10, 1, 1);
    isKind(x, 7, MOVED, 0, 721);
    for (int e = 0; e < 7; e++) due.is("other of " + e, x.compare(e, 1), e + 1);
    for (int e = 0; e < 7; e++) due.is("kind of " + e, x.compare(e, 0), TRIMMED);
    due.is("none is gone", x.gone(), 0);
  }

  // ---- 20 gone

  @Says("GONE, as bits.")
  static void goneOfNone() {
    twins.leaves("no edits", Desks.NEW, 0, x -> x.gone());
    twins.leaves("the last of three", Desks.SOME, 4, x -> x.gone());
    twins.leaves("all of eight", Desks.FULL, 255, x -> x.gone());
  }

  @Says("EDITS of LIST 0 that none has are GONE.")
  static void goneOfEight() {
    CutListDesk x = new CutListDesk();
    for (int e = 0; e < 8; e++) x.edit(0, 0, e, 5, 1, 1);
    due.is("all of eight", x.gone(), 255);
    for (int e = 7; e >= 0; e--) {
      x.edit(1, 0, e, 7, 1, 1);
      due.is("those up to " + e, x.gone(), (1 << e) - 1);
    }
    for (int left = 7; left >= 0; left--) {
      x.back(0);
      due.is("none of " + left, x.gone(), 0);
    }
  }

  // ---- 21 anew

  @Says("How many are ANEW (i = NONE), the i-th (0 to 9999), as 1000000 times the REEL and the frame; NONE. BAD.")
  static void anewIndex() {
    twins.range(Desks.FULL, -1, 499 + 249, 9999, NONE, (x, v) -> x.anew(v));
    twins.range(Desks.NEW, -1, 0, 9999, NONE, (x, v) -> x.anew(v));
    twins.leaves("how many", Desks.SOME, 13 + 5 + 17, x -> x.anew(-1));
    twins.leaves("the last", Desks.SOME, 5199999, x -> x.anew(34));
    twins.bad("i = -2", Desks.SOME, x -> x.anew(-2));
    twins.bad("i = 10000", Desks.SOME, x -> x.anew(10000));
  }

  @Says("the i-th (0 to 9999)")
  static void anewUpToTheLast() {
    CutListDesk x = new CutListDesk();
    x.set(1, 500);
    for (int e = 0; e < 3; e++) x.edit(1, 2, 10000 * e + 500, 500, 6, 1);
    due.is("how many", x.anew(-1), 3 * 3995);
    due.is("the first", x.anew(0), 2000000);
    due.is("the last that may be asked for", x.anew(9999), 2020000 + 9999 - 2 * 3995);
    due.is("there are more, but they may not", x.anew(10000), BAD);
    x.trim(1, 2, 1, 170);
    due.is("10005", x.anew(-1), 2 * 3995 + 2015);
    x.set(1, 499);
    due.is("9999", x.anew(-1), 2 * 3993 + 2013);
    due.is("there is one less", x.anew(9999), NONE);
    due.is("the last", x.anew(9998), 2020000 + 1 + 2012);
  }

  @Says("NONE. BAD.")
  static void anewNone() {
    twins.leaves("no edits", Desks.NEW, NONE, x -> x.anew(0));
    twins.leaves("none of them", Desks.NEW, 0, x -> x.anew(-1));
    CutListDesk x = new CutListDesk();
    x.edit(1, 0, 10, 1, 1, 1);
    due.is("how many", x.anew(-1), 21);
    due.is("frame 0 of reel 0", x.anew(0), 0);
    due.is("the last", x.anew(20), 20);
    due.is("behind it", x.anew(21), NONE);
    x.edit(0, 0, 10, 1, 1, 1);
    due.is("none", x.anew(-1), 0);
    due.is("no first", x.anew(0), NONE);
    x.back(1);
    due.is("list 1 without edits", x.anew(-1), 0);
  }

  @Says("ANEW are frames of PULLS of LIST 1 that no PULL of LIST 0 has")
  static void anewBesideOtherPulls() {
    CutListDesk x = new CutListDesk();
    x.set(1, 0);
    x.edit(1, 3, 100, 10, 1, 1);
    x.edit(0, 3, 0, 10, 1, 1);
    int[][] others = {{90, 10, 10, 100}, {91, 10, 9, 101}, {99, 10, 1, 109}, {100, 10, 0, -1}, {99, 12, 0, -1}, {101, 9, 1, 100},
        {101, 8, 2, 100}, {109, 1, 9, 100}, {110, 1, 10, 100}, {100, 1, 9, 101}, {100, 9, 1, 109}};
    for (int[] o : others) {
      x.trim(0, 0, 0, o[0]);
      x.trim(0, 0, 1, o[1]);
      due.is("how many", x.anew(-1), o[2]);
      due.is("the first", x.anew(0), o[3] < 0 ? NONE : 3000000 + o[3]);
    }
    x.trim(0, 0, 0, 101);
    x.trim(0, 0, 1, 8);
    due.is("behind the other", x.anew(1), 3000109);
    x.back(0);
    x.edit(0, 2, 100, 10, 1, 1);
    due.is("another reel", x.anew(-1), 10);
  }

  @Says("(without what the REEL lacks; by REELS, in order)")
  static void anewWithoutWhatIsLacking() {
    CutListDesk x = new CutListDesk();
    x.edit(1, 5, 100, 10, 1, 1);
    int[][] lengths = {{1, 0}, {90, 0}, {91, 1}, {119, 29}, {120, 30}, {121, 30}, {200000, 30}};
    for (int[] l : lengths) {
      x.reel(5, l[0]);
      due.is("how many with " + l[0], x.anew(-1), l[1]);
      due.is("the first with " + l[0], x.anew(0), l[1] == 0 ? NONE : 5000090);
      if (l[1] > 0) due.is("the last with " + l[0], x.anew(l[1] - 1), 5000090 + l[1] - 1);
      due.is("no more with " + l[0], x.anew(l[1]), NONE);
    }
  }

  @Says("(without what the REEL lacks; by REELS, in order)")
  static void anewInPieces() {
    CutListDesk x = new CutListDesk();
    x.set(1, 0);
    for (int e = 0; e < 8; e++) x.edit(0, 4, 60 * e + 10, 1, 1, 1);
    x.edit(1, 4, 0, 500, 1, 1);
    due.is("nine pieces of one pull", x.anew(-1), 492);
    for (int e = 0; e < 8; e++) {
      due.is("ahead of " + e, x.anew(59 * e + 9), 4000000 + 60 * e + 9);
      due.is("behind " + e, x.anew(59 * e + 10), 4000000 + 60 * e + 11);
    }
    due.is("the last", x.anew(491), 4000499);
    for (int e = 0; e < 7; e++) x.edit(1, e % 6, 1000 + 10 * e, 1, 1, 1);
    due.is("and seven more", x.anew(-1), 499);
    due.is("by reels", x.anew(0), 1000);
    due.is("the last reel", x.anew(498), 5001050);
  }

  @Says("(without what the REEL lacks; by REELS, in order)")
  static void anewInMostPieces() {
    CutListDesk x = new CutListDesk();
    x.set(1, 0);
    for (int e = 0; e < 8; e++) x.edit(1, 4, 60 * e, 21, 1, 1);
    for (int e = 0; e < 8; e++) x.edit(0, 4, 60 * e + 10, 1, 1, 1);
    due.is("sixteen pieces", x.anew(-1), 160);
    for (int i = 0; i < 160; i++) due.is("the i-th", x.anew(i), 4000000 + 60 * (i / 20) + i % 20 + (i % 20 < 10 ? 0 : 1));
    due.is("no more", x.anew(160), NONE);
  }

  // ---- 22 saving

  @Says("SAVING: which (what = 0), frames of PULLS then (1); NONE: LIST 1 has none. BAD.")
  static void savingWhat() {
    twins.range(Desks.SOME, 0, 3, 1, 33 + 39 + 13, (x, v) -> x.saving(v));
    twins.leaves("which", Desks.SOME, 3, x -> x.saving(0));
    twins.leaves("frames then", Desks.SOME, 33 + 39 + 13, x -> x.saving(1));
    twins.leaves("of eight", Desks.FULL, 0, x -> x.saving(0));
  }

  @Says("NONE: LIST 1 has none. BAD.")
  static void savingNone() {
    twins.range(Desks.NEW, 0, NONE, 1, NONE, (x, v) -> x.saving(v));
    CutListDesk x = Desks.FULL.desk();
    for (int e = 0; e < 8; e++) x.back(1);
    due.is("list 0 has eight", x.saving(0), NONE);
    due.is("their frames", x.saving(1), NONE);
  }

  @Says("the EDIT of LIST 1 without which PULLS of that have fewest frames, of like ones the least")
  static void savingOfOneAndOfEight() {
    CutListDesk x = new CutListDesk();
    x.edit(1, 0, 100, 10, 1, 1);
    due.is("the only one", x.saving(0), 0);
    due.is("none is left", x.saving(1), 0);
    for (int e = 1; e < 8; e++) x.edit(1, 0, 100 + 100 * e, 10, 1, 1);
    due.is("of like ones the least", x.saving(0), 0);
    due.is("seven are left", x.saving(1), 7 * 30);
    x.trim(1, 7, 1, 11);
    due.is("the last saves one more", x.saving(0), 7);
    due.is("then", x.saving(1), 7 * 30);
    x.trim(1, 0, 1, 11);
    due.is("so does the first", x.saving(0), 0);
    due.is("frames", x.saving(1), 6 * 30 + 31);
  }

  @Says("the EDIT of LIST 1 without which PULLS of that have fewest frames, of like ones the least")
  static void savingNothing() {
    CutListDesk x = new CutListDesk();
    for (int e = 0; e < 8; e++) x.edit(1, 0, 100, 10, 1, 1);
    due.is("none saves anything", x.saving(0), 0);
    due.is("frames", x.saving(1), 30);
  }
}
