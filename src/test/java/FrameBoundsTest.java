/** The bounds of promises 9 to 14, sentence by sentence: info, shows, seen, still, told, number. */
public final class FrameBoundsTest {
  private static final int BAD = Twins.BAD, NOT = Twins.NOT, NONE = Twins.NONE;
  private static final Due due = new Due();
  private static final Twins twins = new Twins(due);

  public static void main(String[] args) throws Exception {
    Sentences.run(FrameBoundsTest.class, due);
  }

  private static CutListDesk withEdit(int in, int many, int p, int q) {
    CutListDesk x = new CutListDesk();
    x.edit(0, 4, in, many, p, q);
    return x;
  }

  // ---- 9 info

  @Says("the frame of the cut with which it begins (5), FIRST (6), LAST (7). BAD.")
  static void infoList() {
    twins.range(Desks.SOME, 0, 1, 1, 2, (x, v) -> x.info(v, 0, 0));
  }

  @Says("the frame of the cut with which it begins (5), FIRST (6), LAST (7). BAD.")
  static void infoEdit() {
    twins.range(Desks.SOME, 0, 100, 2, 300, (x, v) -> x.info(0, v, 1));
    twins.range(Desks.SOME, 0, 50, 3, 199990, (x, v) -> x.info(1, v, 1));
    twins.range(Desks.FULL, 0, 0, 7, 3500, (x, v) -> x.info(1, v, 5));
    twins.bad("a list without edits", Desks.NEW, x -> x.info(0, 0, 0));
    CutListDesk x = Desks.FULL.desk();
    x.back(1);
    due.is("one that was undone", x.info(1, 7, 0), BAD);
  }

  @Says("REEL (what = 0), IN (1), LONG (2), p (3), q (4), the frame of the cut with which it begins (5), FIRST (6), LAST (7). BAD.")
  static void infoWhat() {
    twins.range(Desks.SOME, 0, 1, 7, 305, (x, v) -> x.info(0, 2, v));
    int[] want = {1, 300, 12, 1, 2, 30, 300, 305};
    for (int what = 0; what < 8; what++) {
      int of = what;
      twins.leaves("what " + what, Desks.SOME, want[what], x -> x.info(0, 2, of));
    }
  }

  @Says("the cut begins with frame 0")
  static void infoBegin() {
    CutListDesk x = Desks.FULL.desk();
    for (int list = 0; list < 2; list++) {
      for (int e = 0; e < 8; e++) due.is("begin", x.info(list, e, 5), 500 * e);
    }
  }

  @Says("FIRST and LAST of an EDIT are the first and last frames of the REEL that it shows.")
  static void infoFirstAndLast() {
    int[][] edits = {{0, 1, 6, 1, 0}, {0, 500, 0, 6, 0}, {199999, 1, 6, 1, 199999}, {199999, 500, 6, 1, 202993}, {0, 500, 1, 6, 83},
        {0, 499, 1, 6, 83}, {0, 498, 1, 6, 82}, {10, 2, 5, 6, 10}, {10, 3, 5, 6, 11}, {10, 2, 6, 6, 11}, {10, 2, 6, 5, 11}};
    for (int[] e : edits) {
      CutListDesk x = withEdit(e[0], e[1], e[2], e[3]);
      due.is("FIRST", x.info(0, 0, 6), e[0]);
      due.is("LAST", x.info(0, 0, 7), e[4]);
    }
  }

  @Says("frame k of an EDIT (0 on) shows frame IN and k times p by q, cut, together, of its REEL.")
  static void showsEverySpeed() {
    int[] ends = {0, 1, 2, 3, 5, 6, 498, 499};
    for (int p = 0; p <= 6; p++) {
      for (int q = 1; q <= 6; q++) {
        CutListDesk x = withEdit(199999, 500, p, q);
        for (int k : ends) {
          int by = 0;
          while ((by + 1) * q <= k * p) by++;
          due.is(k + " at " + p + " by " + q, x.shows(0, k, 2), 199999 + by);
        }
      }
    }
  }

  // ---- 10 shows

  @Says("NONE: the cut has no such frame. BAD.")
  static void showsList() {
    twins.range(Desks.SOME, 0, 1, 1, 2, (x, v) -> x.shows(v, 0, 1));
  }

  @Says("Of a frame of the cut (0 to 3999)")
  static void showsFrame() {
    twins.range(Desks.FULL, 0, 1000, 3999, 36000 + 499 / 2, (x, v) -> x.shows(1, v, 2));
    twins.range(Desks.SOME, 0, 100, 3999, NONE, (x, v) -> x.shows(0, v, 2));
    twins.range(Desks.NEW, 0, NONE, 3999, NONE, (x, v) -> x.shows(0, v, 2));
  }

  @Says("the EDIT (what = 0), REEL (1), frame of it (2), whether the REEL lacks it (3: 1, 0)")
  static void showsWhat() {
    twins.range(Desks.SOME, 0, 1, 3, 0, (x, v) -> x.shows(0, 25, v));
    int[] want = {1, 2, 60, 0};
    for (int what = 0; what < 4; what++) {
      int of = what;
      twins.leaves("what " + what, Desks.SOME, want[what], x -> x.shows(0, 25, of));
    }
  }

  @Says("EDITS are one behind another")
  static void showsWhereEditsMeet() {
    CutListDesk x = Desks.SOME.desk();
    int[][] want = {{0, 0}, {19, 0}, {20, 1}, {29, 1}, {30, 2}, {41, 2}};
    for (int[] w : want) due.is("frame " + w[0], x.shows(0, w[0], 0), w[1]);
    CutListDesk full = Desks.FULL.desk();
    for (int e = 0; e < 8; e++) {
      due.is("begin of " + e, full.shows(0, 500 * e, 0), e);
      due.is("end of " + e, full.shows(0, 500 * e + 499, 0), e);
    }
  }

  @Says("NONE: the cut has no such frame. BAD.")
  static void showsNone() {
    for (int what = 0; what < 4; what++) {
      int of = what;
      twins.leaves("behind the last", Desks.SOME, NONE, x -> x.shows(0, 42, of));
      twins.leaves("of the other list", Desks.SOME, NONE, x -> x.shows(1, 52, of));
      twins.leaves("no edits", Desks.NEW, NONE, x -> x.shows(1, 0, of));
      due.holds("the last", Desks.SOME.desk().shows(1, 51, what) != NONE);
    }
    CutListDesk x = Desks.FULL.desk();
    x.trim(1, 3, 1, 499);
    due.is("the last of 3999", x.shows(1, 3998, 0), 7);
    due.is("one less than all", x.shows(1, 3999, 0), NONE);
  }

  @Says("Refusals, the first that fits, in the order told at each act: BAD -2")
  static void showsBadAheadOfNone() {
    twins.beside(Desks.NEW, 0, 3, BAD, (x, v) -> x.shows(0, 0, v));
    twins.beside(Desks.NEW, 0, 1, BAD, (x, v) -> x.shows(v, 0, 0));
    twins.beside(Desks.NEW, 0, 3999, BAD, (x, v) -> x.shows(1, v, 0));
  }

  @Says("(It may be one that the REEL lacks.)")
  static void showsLacking() {
    CutListDesk x = withEdit(100, 10, 1, 1);
    int[][] lengths = {{1, 1, 1}, {100, 1, 1}, {101, 0, 1}, {109, 0, 1}, {110, 0, 0}, {200000, 0, 0}};
    for (int[] l : lengths) {
      x.reel(4, l[0]);
      due.is("the first with " + l[0], x.shows(0, 0, 3), l[1]);
      due.is("the last with " + l[0], x.shows(0, 9, 3), l[2]);
      due.is("it is told all the same", x.shows(0, 9, 2), 109);
    }
  }

  // ---- 11 seen

  @Says("How often a frame (0 to 299999) of a REEL is shown (what = 0), the first frame of the cut that shows it (1; NONE). BAD.")
  static void seenList() {
    twins.range(Desks.SOME, 0, 0, 1, 1, (x, v) -> x.seen(v, 1, 120, 0));
  }

  @Says("REELS are 0 to 5")
  static void seenReel() {
    twins.range(Desks.SOME, 0, 8, 5, 0, (x, v) -> x.seen(1, v, 5, 0));
    due.is("reel 5", Desks.SOME.desk().seen(1, 5, 199990, 1), 43);
  }

  @Says("How often a frame (0 to 299999) of a REEL is shown")
  static void seenFrame() {
    for (int what = 0; what < 2; what++) {
      int of = what;
      twins.range(Desks.SOME, 0, -what, 299999, -what, (x, v) -> x.seen(0, 1, v, of));
    }
    CutListDesk x = withEdit(0, 1, 1, 1);
    due.is("frame 0", x.seen(0, 4, 0, 0), 1);
    due.is("frame 0 first", x.seen(0, 4, 0, 1), 0);
  }

  @Says("How often a frame (0 to 299999) of a REEL is shown (what = 0), the first frame of the cut that shows it (1; NONE). BAD.")
  static void seenWhat() {
    twins.range(Desks.SOME, 0, 2, 1, 30, (x, v) -> x.seen(0, 1, 300, v));
    twins.leaves("how often", Desks.SOME, 2, x -> x.seen(0, 1, 300, 0));
    twins.leaves("the first", Desks.SOME, 30, x -> x.seen(0, 1, 300, 1));
  }

  @Says("the first frame of the cut that shows it (1; NONE)")
  static void seenNone() {
    int[][] beside = {{1, 99}, {1, 120}, {1, 299}, {1, 306}, {2, 49}, {2, 51}, {2, 69}, {0, 100}};
    for (int[] b : beside) {
      twins.leaves("never", Desks.SOME, 0, x -> x.seen(0, b[0], b[1], 0));
      twins.leaves("no first", Desks.SOME, NONE, x -> x.seen(0, b[0], b[1], 1));
    }
    twins.leaves("no edits: never", Desks.NEW, 0, x -> x.seen(0, 0, 0, 0));
    twins.leaves("no edits: no first", Desks.NEW, NONE, x -> x.seen(0, 0, 0, 1));
  }

  @Says("How often a frame (0 to 299999) of a REEL is shown (what = 0), the first frame of the cut that shows it (1; NONE)")
  static void seenByAllFrames() {
    CutListDesk x = new CutListDesk();
    for (int e = 0; e < 8; e++) x.edit(1, 5, 199999, 500, 0, 6);
    due.is("4000 times", x.seen(1, 5, 199999, 0), 4000);
    due.is("first", x.seen(1, 5, 199999, 1), 0);
    due.is("the one ahead", x.seen(1, 5, 199998, 0), 0);
    due.is("the one behind", x.seen(1, 5, 200000, 0), 0);
  }

  @Says("How often a frame (0 to 299999) of a REEL is shown (what = 0), the first frame of the cut that shows it (1; NONE)")
  static void seenAtTheEndsOfAnEdit() {
    for (int p = 1; p <= 6; p++) {
      for (int q = 1; q <= 6; q++) {
        CutListDesk x = withEdit(50, 7, p, q);
        int last = 50 + 6 * p / q;
        due.is("ahead of FIRST", x.seen(0, 4, 49, 0), 0);
        due.is("FIRST", x.seen(0, 4, 50, 1), 0);
        due.is("how often FIRST", x.seen(0, 4, 50, 0), Math.min(7, (q + p - 1) / p));
        due.holds("LAST", x.seen(0, 4, last, 0) > 0);
        due.is("behind LAST", x.seen(0, 4, last + 1, 0), 0);
        due.is("behind LAST none is first", x.seen(0, 4, last + 1, 1), NONE);
      }
    }
  }

  // ---- 12 still

  @Says("frames of the REEL between FIRST and LAST that it does not show (1). BAD.")
  static void stillList() {
    twins.range(Desks.SOME, 0, 0, 1, 9, (x, v) -> x.still(v, 0, 1));
  }

  @Says("frames of the REEL between FIRST and LAST that it does not show (1). BAD.")
  static void stillEdit() {
    twins.range(Desks.SOME, 0, 0, 2, 6, (x, v) -> x.still(0, v, 0));
    twins.range(Desks.SOME, 0, 9, 3, 40, (x, v) -> x.still(1, v, 1));
    twins.range(Desks.FULL, 0, 0, 7, 250, (x, v) -> x.still(1, v, 0));
    twins.bad("a list without edits", Desks.NEW, x -> x.still(0, 0, 0));
  }

  @Says("frames of the cut that show the same as the one ahead of them (what = 0), frames of the REEL between FIRST and LAST that it does not show (1). BAD.")
  static void stillWhat() {
    twins.range(Desks.SOME, 0, 6, 1, 0, (x, v) -> x.still(0, 2, v));
    twins.range(Desks.SOME, 0, 0, 1, 9, (x, v) -> x.still(0, 1, v));
    twins.leaves("the same", Desks.SOME, 6, x -> x.still(0, 2, 0));
    twins.leaves("skipped", Desks.SOME, 9, x -> x.still(0, 1, 1));
  }

  @Says("frames of the cut that show the same as the one ahead of them (what = 0), frames of the REEL between FIRST and LAST that it does not show (1)")
  static void stillEnds() {
    int[][] edits = {{1, 0, 1, 0, 0}, {1, 6, 1, 0, 0}, {1, 1, 6, 0, 0}, {2, 0, 1, 1, 0}, {2, 6, 1, 0, 5}, {2, 1, 6, 1, 0}, {500, 0, 6, 499, 0},
        {500, 6, 1, 0, 5 * 499}, {500, 1, 6, 499 - 83, 0}, {500, 6, 6, 0, 0}, {500, 5, 6, 499 - 415, 0}, {500, 6, 5, 0, 598 - 499},
        {6, 5, 6, 1, 0}, {7, 5, 6, 1, 0}, {5, 6, 5, 0, 0}, {6, 6, 5, 0, 1}};
    for (int[] e : edits) {
      CutListDesk x = withEdit(199999, e[0], e[1], e[2]);
      due.is("still of " + e[0] + " at " + e[1] + " by " + e[2], x.still(0, 0, 0), e[3]);
      due.is("skipped of " + e[0] + " at " + e[1] + " by " + e[2], x.still(0, 0, 1), e[4]);
    }
  }

  // ---- 13 told

  private static void isTold(CutListDesk x, int frame, int... want) {
    for (int what = 0; what < 4; what++) due.is("told(" + frame + ", " + what + ")", x.told(frame, what), want[what]);
  }

  private static CutListDesk counting(int counting) {
    CutListDesk x = new CutListDesk();
    x.set(0, counting);
    return x;
  }

  @Says("of a frame (0 to 9999999). BAD.")
  static void toldFrame() {
    twins.range(Desks.SOME, 0, 0, 9999999, 92, (x, v) -> x.told(v, 0));
    isTold(counting(0), 9999999, 92, 41, 6, 29);
    isTold(counting(1), 9999999, 92, 35, 33, 9);
    isTold(counting(2), 9999999, 111, 6, 39, 24);
  }

  @Says("HOURS (what = 0), MINUTES (1), SECONDS (2), FRAMES (3) of a frame")
  static void toldWhat() {
    twins.range(Desks.SOME, 0, 1, 3, 4, (x, v) -> x.told(111582, v));
    int[] want = {1, 2, 3, 4};
    for (int what = 0; what < 4; what++) {
      int of = what;
      twins.leaves("what " + what, Desks.SOME, want[what], x -> x.told(111582, of));
    }
  }

  @Says("2: 25 frames a SECOND")
  static void toldBy25() {
    CutListDesk x = counting(2);
    isTold(x, 24, 0, 0, 0, 24);
    isTold(x, 25, 0, 0, 1, 0);
    isTold(x, 1499, 0, 0, 59, 24);
    isTold(x, 1500, 0, 1, 0, 0);
    isTold(x, 89999, 0, 59, 59, 24);
    isTold(x, 90000, 1, 0, 0, 0);
  }

  @Says("1: 30;")
  static void toldBy30() {
    CutListDesk x = counting(1);
    isTold(x, 29, 0, 0, 0, 29);
    isTold(x, 30, 0, 0, 1, 0);
    isTold(x, 1799, 0, 0, 59, 29);
    isTold(x, 1800, 0, 1, 0, 0);
    isTold(x, 107999, 0, 59, 59, 29);
    isTold(x, 108000, 1, 0, 0, 0);
  }

  @Says("the first two FRAMES, 0 and 1, of SECOND 0 of each MINUTE that cannot be divided by 10 are left out")
  static void toldDropping() {
    CutListDesk x = counting(0);
    isTold(x, 29, 0, 0, 0, 29);
    isTold(x, 30, 0, 0, 1, 0);
    int begins = 0;
    for (int m = 0; m < 60; m++) {
      int first = m % 10 == 0 ? 0 : 2;
      due.is("minute of " + begins, x.told(begins, 1), m);
      due.is("seconds of " + begins, x.told(begins, 2), 0);
      due.is("frames of " + begins, x.told(begins, 3), first);
      begins += 1800 - first;
      due.is("the last of minute " + m, x.told(begins - 1, 1), m);
      due.is("its seconds", x.told(begins - 1, 2), 59);
      due.is("its frames", x.told(begins - 1, 3), 29);
    }
    isTold(x, begins, 1, 0, 0, 0);
    isTold(x, begins + 1800, 1, 1, 0, 2);
  }

  // ---- 14 number

  @Says("The frame that is told so (HOURS 0 to 99).")
  static void numberHours() {
    twins.range(Desks.SOME, 0, 0, 99, 99 * 107892, (x, v) -> x.number(v, 0, 0, 0));
    due.is("by 30", counting(1).number(99, 0, 0, 0), 99 * 108000);
    due.is("by 25", counting(2).number(99, 0, 0, 0), 99 * 90000);
  }

  @Says("MINUTES (0 to 59)")
  static void numberMinutes() {
    twins.range(Desks.SOME, 0, 30, 59, 59 * 1800 + 30 - 2 * 54, (x, v) -> x.number(0, v, 1, 0));
  }

  @Says("SECONDS (0 to 59)")
  static void numberSeconds() {
    twins.range(Desks.SOME, 0, 0, 59, 1770, (x, v) -> x.number(0, 0, v, 0));
  }

  @Says("BAD (FRAMES below 25 or 30 by COUNTING)")
  static void numberFrames() {
    twins.range(Desks.SOME, 0, 0, 29, 29, (x, v) -> x.number(0, 0, 0, v));
    for (int way = 0; way < 3; way++) {
      int rate = way == 2 ? 25 : 30;
      CutListDesk x = counting(way);
      due.is("the least by " + way, x.number(0, 0, 1, 0), rate);
      due.is("the last by " + way, x.number(0, 0, 1, rate - 1), 2 * rate - 1);
      due.is("the first that is not by " + way, x.number(0, 0, 1, rate), BAD);
      due.is("below 0 by " + way, x.number(0, 0, 1, -1), BAD);
    }
  }

  @Says("The frame that is told so (HOURS 0 to 99).")
  static void numberHighest() {
    due.is("dropping", counting(0).number(99, 59, 59, 29), 100 * 107892 - 1);
    due.is("by 30", counting(1).number(99, 59, 59, 29), 100 * 108000 - 1);
    due.is("by 25", counting(2).number(99, 59, 59, 24), 100 * 90000 - 1);
  }

  @Says("are left out: no frame has such a number.")
  static void numberLeftOut() {
    for (int m = 0; m < 60; m++) {
      int of = m;
      boolean isOut = m % 10 != 0;
      int begins = 1800 * m - 2 * (m - m / 10);
      for (int f = 0; f < 2; f++) {
        int frames = f;
        due.is("minute " + m, counting(0).number(0, m, 0, f), isOut ? NOT : begins + f);
        due.is("second 1 of " + m, counting(0).number(0, m, 1, f), begins + 30 + f);
        due.is("by 30", counting(1).number(0, m, 0, f), 1800 * m + f);
        due.is("by 25", counting(2).number(0, m, 0, f), 1500 * m + f);
        if (m == 1 || m == 9 || m == 11 || m == 59) twins.leaves("left out", Desks.SOME, NOT, x -> x.number(99, of, 0, frames));
      }
      due.is("frames 2 of " + m, counting(0).number(0, m, 0, 2), begins + 2);
    }
  }

  @Says("BAD (FRAMES below 25 or 30 by COUNTING); NOT: no frame is.")
  static void numberBadAheadOfNot() {
    twins.beside(Desks.SOME, 0, 99, BAD, (x, v) -> x.number(v, 1, 0, 0));
    twins.beside(Desks.SOME, 0, 59, BAD, (x, v) -> x.number(0, v, 0, 0));
    twins.bad("frames below 0", Desks.SOME, x -> x.number(0, 1, 0, -1));
    twins.bad("minute 61", Desks.SOME, x -> x.number(0, 61, 0, 1));
    twins.bad("second 60", Desks.SOME, x -> x.number(0, 1, 60, 0));
    twins.bad("second -1", Desks.SOME, x -> x.number(0, 1, -1, 0));
  }
}
