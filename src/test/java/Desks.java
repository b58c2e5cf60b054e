import java.util.ArrayList;
import java.util.List;

/** Objects to begin a test with. SHEET 3 is LOST in each, and all are far below the 512 calls that are promised. */
enum Desks {
  NEW, SOME, FULL;

  static final int NO_FINDING = 0, NULL = 1, INDEX = 2, CAST = 3, STORE = 4, SIZE = 5;

  CutListDesk desk() {
    return desk(NO_FINDING);
  }

  /** The same with a FINDING, the latest one; a NEW object can have NULL and SIZE alone. */
  CutListDesk desk(int latest) {
    CutListDesk x = new CutListDesk();
    if (this == SOME) makeSome(x);
    if (this == FULL) makeFull(x);
    if (latest == NULL) x.lose(3);
    if (latest == INDEX) x.put(0, 0, 60, 0);
    if (latest == CAST) x.put(0, 1, 0, 0);
    if (latest == STORE) x.copy(0, 0, 1, 0, 0);
    if (latest == SIZE) x.sheet(0, 0, -1);
    return x;
  }

  private static void makeSome(CutListDesk x) {
    x.edit(0, 1, 100, 20, 1, 1);
    x.edit(0, 2, 50, 10, 2, 1);
    x.edit(0, 1, 300, 12, 1, 2);
    x.edit(1, 2, 50, 10, 4, 2);
    x.edit(1, 1, 100, 25, 1, 1);
    x.edit(1, 0, 5, 8, 0, 1);
    x.edit(1, 5, 199990, 9, 6, 1);
    x.set(1, 7);
    x.set(2, 3);
    x.reel(1, 320);
    x.reel(5, 200000);
    rows(x, 6, 7, 8);
  }

  /** Eight EDITS in each LIST, so far apart that none of the PULLS are joined; 4000 frames in each cut. */
  private static void makeFull(CutListDesk x) {
    for (int e = 0; e < 8; e++) {
      x.edit(0, e % 6, 5000 * e + 1000, 500, e % 7, 1);
      x.edit(1, e % 6, 5000 * e + 1000, 500, 1, e % 6 + 1);
    }
    rows(x, 60, 60, 60);
  }

  /** SHEETS 0, 1, 2 are bytes, shorts, ints. */
  private static void rows(CutListDesk x, int... sizes) {
    for (int s = 0; s < 3; s++) {
      x.sheet(s, s, sizes[s]);
      for (int i = 0; i < 6; i++) x.put(s, s, i, (s == 2 ? 1000000 : 10) * (i - 2));
      x.put(s, s, sizes[s] - 1, 99 + s);
    }
  }

  /** All that can be seen of an object but the latest FINDING; the object is spent then. */
  static List<Long> look(CutListDesk x) {
    List<Long> seen = new ArrayList<>();
    seen.add(x.digest());
    for (int what = 0; what <= 7; what++) seen.add((long) x.count(what));
    for (int list = 0; list < 2; list++) {
      for (int e = 0; e < 8; e++) {
        for (int what = 0; what <= 4; what++) seen.add((long) x.info(list, e, what));
      }
    }
    for (int s = 0; s < 4; s++) lookAtSheet(x, s, seen);
    for (int what = 0; what < 3; what++) seen.add((long) x.set(what, 0));
    for (int r = 0; r < 6; r++) seen.add((long) x.reel(r, 1));
    return seen;
  }

  private static void lookAtSheet(CutListDesk x, int s, List<Long> seen) {
    int form = -1;
    for (int f = 0; f < 3; f++) {
      x.get(s, f, -1);
      if (x.count(8) == INDEX) form = f;
    }
    seen.add((long) form);
    for (int i = 0; i < 60 && form >= 0; i++) seen.add((long) x.get(s, form, i));
    seen.add((long) x.lose(s));
  }
}
