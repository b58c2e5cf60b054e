/** Promises 9 to 12: info, shows, seen, still. */
public final class FramesTest {
  private static final int LEAST = Integer.MIN_VALUE, MOST = Integer.MAX_VALUE;
  private static final Due due = new Due();

  public static void main(String[] args) {
    info();
    shows();
    seen();
    still();
    due.end();
  }

  private static CutListDesk desk() {
    CutListDesk x = new CutListDesk();
    x.edit(0, 1, 100, 10, 2, 3);
    x.edit(0, 2, 50, 4, 5, 2);
    x.edit(0, 1, 104, 6, 0, 6);
    x.edit(0, 1, 100, 3, 4, 4);
    x.edit(1, 4, 0, 1, 6, 1);
    return x;
  }

  private static void info() {
    CutListDesk x = desk();
    int[][] want = {{1, 100, 10, 2, 3, 0, 100, 106}, {2, 50, 4, 5, 2, 10, 50, 57}, {1, 104, 6, 0, 6, 14, 104, 104},
        {1, 100, 3, 4, 4, 20, 100, 102}};
    for (int e = 0; e < 4; e++) {
      for (int what = 0; what < 8; what++) due.is("info " + e + " " + what, x.info(0, e, what), want[e][what]);
    }
    due.is("one frame", x.info(1, 0, 7), 0);
    int[][] bad = {{-1, 0, 0}, {2, 0, 0}, {0, -1, 0}, {0, 4, 0}, {1, 1, 0}, {0, 0, -1}, {0, 0, 8}, {LEAST, 0, 0}, {0, MOST, 0}, {0, 0, MOST}};
    for (int[] b : bad) due.is("bad info", x.info(b[0], b[1], b[2]), -2);
  }

  private static void shows() {
    CutListDesk x = desk();
    x.reel(1, 103);
    int[][] want = {{0, 0, 1, 100, 0}, {1, 0, 1, 100, 0}, {2, 0, 1, 101, 0}, {3, 0, 1, 102, 0}, {4, 0, 1, 102, 0}, {5, 0, 1, 103, 1},
        {9, 0, 1, 106, 1}, {10, 1, 2, 50, 0}, {11, 1, 2, 52, 0}, {12, 1, 2, 55, 0}, {13, 1, 2, 57, 0}, {14, 2, 1, 104, 1},
        {19, 2, 1, 104, 1}, {20, 3, 1, 100, 0}, {22, 3, 1, 102, 0}, {23, -1, -1, -1, -1}, {3999, -1, -1, -1, -1}};
    for (int[] w : want) {
      for (int what = 0; what < 4; what++) due.is("shows " + w[0] + " " + what, x.shows(0, w[0], what), w[what + 1]);
    }
    int[][] bad = {{-1, 0, 0}, {2, 0, 0}, {0, -1, 0}, {0, 4000, 0}, {0, 0, -1}, {0, 0, 4}, {0, 23, 4}, {MOST, 0, 0}, {0, LEAST, 0}, {0, 0, LEAST}};
    for (int[] b : bad) due.is("bad shows", x.shows(b[0], b[1], b[2]), -2);
    CutListDesk y = new CutListDesk();
    for (int e = 0; e < 8; e++) y.edit(1, e % 6, 7, 500, 1, 1);
    due.is("the last frame of all", y.shows(1, 3999, 0), 7);
    due.is("it shows", y.shows(1, 3999, 2), 506);
    due.is("an empty cut", y.shows(0, 0, 0), -1);
  }

  private static void seen() {
    CutListDesk x = desk();
    int[][] want = {{99, 0, -1}, {100, 3, 0}, {101, 2, 2}, {102, 3, 3}, {103, 1, 5}, {104, 8, 6}, {105, 1, 8}, {106, 1, 9}, {107, 0, -1},
        {0, 0, -1}, {299999, 0, -1}};
    for (int[] w : want) {
      due.is("seen " + w[0], x.seen(0, 1, w[0], 0), w[1]);
      due.is("seen first " + w[0], x.seen(0, 1, w[0], 1), w[2]);
    }
    int[] skipping = {1, 0, 1, 0, 0, 1, 0, 1, 0};
    for (int d = 0; d < 9; d++) due.is("skipping " + d, x.seen(0, 2, 50 + d, 0), skipping[d]);
    due.is("first of it", x.seen(0, 2, 57, 1), 13);
    due.is("skipped", x.seen(0, 2, 51, 1), -1);
    due.is("another list", x.seen(1, 1, 100, 0), 0);
    int[][] bad = {{-1, 0, 0, 0}, {2, 0, 0, 0}, {0, -1, 0, 0}, {0, 6, 0, 0}, {0, 0, -1, 0}, {0, 0, 300000, 0}, {0, 0, 0, -1}, {0, 0, 0, 2},
        {LEAST, 0, 0, 0}, {0, MOST, 0, 0}, {0, 0, MOST, 0}, {0, 0, 0, MOST}};
    for (int[] b : bad) due.is("bad seen", x.seen(b[0], b[1], b[2], b[3]), -2);
    CutListDesk y = new CutListDesk();
    y.edit(0, 3, 199999, 500, 6, 1);
    y.edit(0, 3, 202993, 1, 1, 1);
    due.is("the last edit may not be", y.count(0), 1);
    y.edit(0, 3, 199999, 500, 6, 1);
    due.is("the last frame a reel can show", y.seen(0, 3, 202993, 0), 2);
    due.is("first at", y.seen(0, 3, 202993, 1), 499);
  }

  private static void still() {
    CutListDesk x = desk();
    int[][] want = {{3, 0}, {0, 4}, {5, 0}, {0, 0}};
    for (int e = 0; e < 4; e++) {
      due.is("still " + e, x.still(0, e, 0), want[e][0]);
      due.is("skipped " + e, x.still(0, e, 1), want[e][1]);
    }
    due.is("one frame", x.still(1, 0, 0), 0);
    due.is("one frame skips none", x.still(1, 0, 1), 0);
    int[][] bad = {{-1, 0, 0}, {2, 0, 0}, {0, -1, 0}, {0, 4, 0}, {1, 1, 0}, {0, 0, -1}, {0, 0, 2}, {MOST, 0, 0}, {0, LEAST, 0}, {0, 0, MOST}};
    for (int[] b : bad) due.is("bad still", x.still(b[0], b[1], b[2]), -2);
    CutListDesk y = new CutListDesk();
    y.edit(0, 0, 9, 5, 0, 1);
    y.edit(0, 0, 9, 5, 0, 1);
    due.is("an edit is looked at by itself", y.still(0, 1, 0), 4);
  }
}
