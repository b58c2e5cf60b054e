/** Promises 1 to 8: a new object, edit, back, trim, set, reel, swap, read. */
public final class ListsTest {
  private static final int LEAST = Integer.MIN_VALUE, MOST = Integer.MAX_VALUE;
  private static final Due due = new Due();

  public static void main(String[] args) {
    newObject();
    edit();
    back();
    trim();
    set();
    reel();
    swap();
    read();
    readRefused();
    due.end();
  }

  private static void newObject() {
    CutListDesk x = new CutListDesk();
    for (int what = 0; what <= 8; what++) due.is("new: count " + what, x.count(what), 0);
    for (int r = 0; r < 6; r++) due.is("new: length", x.reel(r, 5), 100000);
    due.is("new: COUNTING", x.set(0, 1), 0);
    due.is("new: HANDLE", x.set(1, 1), 10);
    due.is("new: NEAR", x.set(2, 1), 0);
    for (int s = 0; s < 4; s++) due.is("new: sheet " + s, x.lose(s), -11);
    CutListDesk y = new CutListDesk();
    due.is("objects are apart", y.set(1, 3), 10);
  }

  private static void edit() {
    CutListDesk x = new CutListDesk();
    int[][] bad = {{-1, 0, 0, 1, 1, 1}, {2, 0, 0, 1, 1, 1}, {0, -1, 0, 1, 1, 1}, {0, 6, 0, 1, 1, 1},
        {0, 0, -1, 1, 1, 1}, {0, 0, 200000, 1, 1, 1}, {0, 0, 0, 0, 1, 1}, {0, 0, 0, 501, 1, 1},
        {0, 0, 0, 1, -1, 1}, {0, 0, 0, 1, 7, 1}, {0, 0, 0, 1, 1, 0}, {0, 0, 0, 1, 1, 7}, {LEAST, 0, 0, 1, 1, 1},
        {0, MOST, 0, 1, 1, 1}, {0, 0, MOST, 1, 1, 1}, {0, 0, 0, LEAST, 1, 1}, {0, 0, 0, 1, LEAST, 1}, {0, 0, 0, 1, 1, MOST}};
    for (int[] b : bad) due.is("bad edit", x.edit(b[0], b[1], b[2], b[3], b[4], b[5]), -2);
    due.is("none came", x.count(0) + x.count(1), 0);
    due.is("least edit", x.edit(0, 0, 0, 1, 0, 1), 1);
    due.is("most edit", x.edit(0, 5, 199999, 500, 6, 6), 2);
    due.is("other list", x.edit(1, 3, 7, 9, 2, 4), 1);
    int[] want = {5, 199999, 500, 6, 6, 1, 199999, 200498};
    for (int what = 0; what < 8; what++) due.is("info(0, 1, " + what + ")", x.info(0, 1, what), want[what]);
    for (int n = 3; n <= 8; n++) due.is("edit " + n, x.edit(0, 0, 0, 1, 1, 1), n);
    due.is("ninth", x.edit(0, 0, 0, 1, 1, 1), -4);
    due.is("BAD ahead of FULL", x.edit(0, 0, 0, 1, 1, 0), -2);
    due.is("still eight", x.count(0), 8);
    due.is("list 1 is not full", x.edit(1, 0, 0, 1, 1, 1), 2);
  }

  private static void back() {
    CutListDesk x = new CutListDesk();
    due.is("back(-1)", x.back(-1), -2);
    due.is("back(2)", x.back(2), -2);
    due.is("back of none", x.back(1), -3);
    x.edit(1, 1, 10, 20, 1, 1);
    x.edit(1, 2, 30, 40, 1, 1);
    due.is("back", x.back(1), 1);
    due.is("the last one went", x.info(1, 0, 0), 1);
    due.is("it is no more", x.info(1, 1, 0), -2);
    due.is("frames", x.count(3), 20);
    due.is("back again", x.back(1), 0);
    due.is("none left", x.back(1), -3);
    due.is("a new one", x.edit(1, 4, 5, 6, 2, 3), 1);
    int[] want = {4, 5, 6, 2, 3, 0, 5, 8};
    for (int what = 0; what < 8; what++) due.is("nothing of the old one", x.info(1, 0, what), want[what]);
  }

  private static void trim() {
    CutListDesk x = new CutListDesk();
    x.edit(0, 1, 10, 20, 1, 2);
    x.edit(0, 2, 30, 40, 3, 4);
    int[][] bad = {{-1, 0, 0, 1}, {2, 0, 0, 1}, {0, -1, 0, 1}, {0, 2, 0, 1}, {1, 0, 0, 1}, {0, 0, -1, 1}, {0, 0, 4, 1},
        {0, 0, 0, -1}, {0, 0, 0, 200000}, {0, 0, 1, 0}, {0, 0, 1, 501}, {0, 0, 2, -1}, {0, 0, 2, 7}, {0, 0, 3, 0},
        {0, 0, 3, 7}, {LEAST, MOST, LEAST, MOST}, {0, 0, MOST, 1}};
    for (int[] b : bad) due.is("bad trim", x.trim(b[0], b[1], b[2], b[3]), -2);
    due.is("IN", x.trim(0, 1, 0, 199999), 30);
    due.is("LONG", x.trim(0, 0, 1, 500), 20);
    due.is("p", x.trim(0, 1, 2, 6), 3);
    due.is("q", x.trim(0, 1, 3, 1), 4);
    int[][] want = {{1, 10, 500, 1, 2, 0, 10, 259}, {2, 199999, 40, 6, 1, 500, 199999, 200233}};
    for (int e = 0; e < 2; e++) {
      for (int what = 0; what < 8; what++) due.is("trimmed " + e + " " + what, x.info(0, e, what), want[e][what]);
    }
    due.is("least IN", x.trim(0, 1, 0, 0), 199999);
    due.is("least LONG", x.trim(0, 1, 1, 1), 40);
    due.is("least p", x.trim(0, 1, 2, 0), 6);
    due.is("most q", x.trim(0, 1, 3, 6), 1);
    due.is("was least IN", x.trim(0, 1, 0, 1), 0);
  }

  private static void set() {
    CutListDesk x = new CutListDesk();
    int[][] bad = {{-1, 0}, {3, 0}, {0, -1}, {0, 3}, {1, -1}, {1, 501}, {2, -1}, {2, 501}, {MOST, 0}, {LEAST, 0}, {1, MOST}};
    for (int[] b : bad) due.is("bad set", x.set(b[0], b[1]), -2);
    int[] first = {0, 10, 0}, most = {2, 500, 500};
    for (int what = 0; what < 3; what++) {
      due.is("set " + what, x.set(what, most[what]), first[what]);
      due.is("set again " + what, x.set(what, 0), most[what]);
      due.is("set to 1 " + what, x.set(what, 1), 0);
    }
    due.is("count() 6", x.count(6), 1);
  }

  private static void reel() {
    CutListDesk x = new CutListDesk();
    int[][] bad = {{-1, 1}, {6, 1}, {0, 0}, {0, 200001}, {0, -1}, {MOST, 1}, {LEAST, 1}, {0, LEAST}, {0, MOST}};
    for (int[] b : bad) due.is("bad reel", x.reel(b[0], b[1]), -2);
    due.is("reel 5", x.reel(5, 1), 100000);
    due.is("reel 5 again", x.reel(5, 200000), 1);
    due.is("and again", x.reel(5, 7), 200000);
    due.is("reel 0 is as it was", x.reel(0, 7), 100000);
  }

  private static void swap() {
    CutListDesk x = new CutListDesk();
    due.is("swap of none", x.swap(), 0);
    x.edit(0, 1, 10, 20, 1, 1);
    x.edit(0, 2, 30, 40, 1, 1);
    x.edit(1, 3, 50, 60, 1, 1);
    due.is("swap", x.swap(), 3);
    due.is("count 0", x.count(0), 1);
    due.is("count 1", x.count(1), 2);
    due.is("list 0", x.info(0, 0, 0), 3);
    due.is("list 1", x.info(1, 1, 0), 2);
    x.trim(0, 0, 0, 51);
    due.is("they are apart", x.info(1, 0, 1), 10);
    due.is("swap back", x.swap(), 3);
    due.is("list 1 now", x.info(1, 0, 1), 51);
  }

  private static void fill(CutListDesk x, int s, int form, int... items) {
    x.sheet(s, form, items.length);
    for (int i = 0; i < items.length; i++) x.put(s, form, i, items[i]);
  }

  private static void read() {
    CutListDesk x = new CutListDesk();
    fill(x, 2, 2, 5, 199999, 500, 6, 6, 1, 2, 3, 4, 5, 0, 1, 2, 3);
    due.is("two are whole", x.read(0, 2), 2);
    int[] want = {5, 199999, 500, 6, 6};
    for (int what = 0; what < 5; what++) due.is("read: info " + what, x.info(0, 0, what), want[what]);
    due.is("second", x.info(0, 1, 2), 3);
    fill(x, 1, 0, 1, 2, 3, 4, 5, 1, 2, 3, 4, 0, 1, 2, 3, 4, 5);
    due.is("until one may not be", x.read(1, 1), 1);
    due.is("as edit(), more", x.read(1, 1), 1);
    due.is("two now", x.count(1), 2);
    fill(x, 3, 1, 1, 2, 3, 4);
    due.is("none is whole", x.read(1, 3), 0);
    x.sheet(3, 1, 60);
    for (int i = 0; i < 60; i++) x.put(3, 1, i, 1);
    due.is("until the list is full", x.read(1, 3), 6);
    due.is("full", x.read(1, 3), 0);
    due.is("eight", x.count(1), 8);
    CutListDesk y = new CutListDesk();
    fill(y, 0, 0, 1, 2, 3, 4, 5);
    due.is("five items are one whole edit", y.read(0, 0), 1);
    fill(y, 0, 0, 1, 2, 3, 4, 5, 5, 4, 3, 2, 1);
    due.is("ten items are two", y.read(1, 0), 2);
    due.is("the second of them", y.info(1, 1, 0), 5);
    x.sheet(0, 2, 0);
    due.is("an empty sheet", x.read(0, 0), 0);
    due.is("list 0 has its two", x.count(0), 2);
    due.is("no finding", x.count(8), 0);
  }

  private static void readRefused() {
    CutListDesk x = new CutListDesk();
    due.is("read(-1, 0)", x.read(-1, 0), -2);
    due.is("read(2, 0)", x.read(2, 0), -2);
    due.is("read(0, -1)", x.read(0, -1), -2);
    due.is("read(0, 4)", x.read(0, 4), -2);
    due.is("BAD is no finding", x.count(8), 0);
    due.is("NULL", x.read(0, 3), -11);
    due.is("NULL is a finding", x.count(8), 1);
    int[][] bad = {{6, 0, 1, 1, 1}, {-1, 0, 1, 1, 1}, {0, -1, 1, 1, 1}, {0, 200000, 1, 1, 1}, {0, 0, 0, 1, 1},
        {0, 0, 501, 1, 1}, {0, 0, 1, -1, 1}, {0, 0, 1, 7, 1}, {0, 0, 1, 1, 0}, {0, 0, 1, 1, 7}};
    for (int[] b : bad) {
      fill(x, 0, 2, b);
      due.is("no such edit", x.read(0, 0), 0);
    }
    due.is("none came", x.count(0), 0);
  }
}
