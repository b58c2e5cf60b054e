/** Promises 15 to 18: pulls, pull, waste, total. */
public final class PullsTest {
  private static final int LEAST = Integer.MIN_VALUE, MOST = Integer.MAX_VALUE;
  private static final Due due = new Due();

  public static void main(String[] args) {
    inOrder();
    handles();
    near();
    joinedByAnother();
    lacking();
    waste();
    refused();
    due.end();
  }

  private static void isPull(CutListDesk x, int i, int reel, int first, int last, int bits, int lacking) {
    int[] want = {reel, first, last, bits, lacking};
    for (int what = 0; what < 5; what++) due.is("pull(1, " + i + ", " + what + ")", x.pull(1, i, what), want[what]);
  }

  private static void inOrder() {
    CutListDesk x = new CutListDesk();
    x.edit(1, 5, 50, 10, 1, 1);
    x.edit(1, 0, 900, 10, 1, 1);
    x.edit(1, 0, 100, 10, 1, 1);
    x.edit(1, 3, 50, 10, 1, 1);
    due.is("pulls", x.pulls(1), 4);
    due.is("pulls of the other list", x.pulls(0), 0);
    due.is("count() 4", x.count(4), 4);
    isPull(x, 0, 0, 90, 119, 4, 0);
    isPull(x, 1, 0, 890, 919, 2, 0);
    isPull(x, 2, 3, 40, 69, 8, 0);
    isPull(x, 3, 5, 40, 69, 1, 0);
    isPull(x, 4, -1, -1, -1, -1, -1);
    isPull(x, 7, -1, -1, -1, -1, -1);
    due.is("frames of pulls", x.total(1, 0), 120);
    due.is("frames of the cut", x.total(1, 1), 40);
    due.is("lacking", x.total(1, 2), 0);
    due.is("waste", x.waste(1), 80);
    due.is("none of list 0", x.total(0, 0) + x.total(0, 1) + x.total(0, 2) + x.waste(0), 0);
  }

  private static void handles() {
    CutListDesk x = new CutListDesk();
    x.edit(1, 2, 9, 3, 2, 1);
    isPull(x, 0, 2, 0, 23, 1, 0);
    x.set(1, 9);
    isPull(x, 0, 2, 0, 22, 1, 0);
    x.set(1, 8);
    isPull(x, 0, 2, 1, 21, 1, 0);
    x.set(1, 0);
    isPull(x, 0, 2, 9, 13, 1, 0);
    due.is("between first and last", x.waste(1), 2);
    x.set(1, 500);
    isPull(x, 0, 2, 0, 513, 1, 0);
  }

  private static void near() {
    CutListDesk x = new CutListDesk();
    x.set(1, 0);
    x.edit(1, 1, 100, 10, 1, 1);
    x.edit(1, 1, 110, 10, 1, 1);
    due.is("next to each other", x.pulls(1), 1);
    isPull(x, 0, 1, 100, 119, 3, 0);
    x.trim(1, 1, 0, 111);
    due.is("one lies between", x.pulls(1), 2);
    x.set(2, 1);
    due.is("near enough", x.pulls(1), 1);
    due.is("the one between is pulled", x.total(1, 0), 21);
    due.is("and not shown", x.waste(1), 1);
    x.set(2, 500);
    x.trim(1, 1, 0, 610);
    due.is("500 between", x.pulls(1), 1);
    x.trim(1, 1, 0, 611);
    due.is("501 between", x.pulls(1), 2);
    x.trim(1, 1, 0, 100);
    x.back(1);
    x.edit(1, 2, 110, 10, 1, 1);
    due.is("other reels are never joined", x.pulls(1), 2);
  }

  private static void joinedByAnother() {
    CutListDesk x = new CutListDesk();
    x.set(1, 0);
    x.edit(1, 1, 100, 10, 1, 1);
    x.edit(1, 1, 140, 10, 1, 1);
    due.is("two", x.pulls(1), 2);
    x.edit(1, 1, 90, 100, 1, 1);
    due.is("one around both", x.pulls(1), 1);
    isPull(x, 0, 1, 90, 189, 7, 0);
    x.trim(1, 2, 0, 105);
    x.trim(1, 2, 1, 36);
    isPull(x, 0, 1, 100, 149, 7, 0);
    x.trim(1, 1, 1, 1);
    isPull(x, 0, 1, 100, 140, 7, 0);
  }

  private static void lacking() {
    CutListDesk x = new CutListDesk();
    x.edit(1, 4, 50, 10, 1, 1);
    x.edit(1, 4, 200, 10, 1, 1);
    x.reel(4, 70);
    isPull(x, 0, 4, 40, 69, 1, 0);
    isPull(x, 1, 4, 190, 219, 2, 30);
    x.reel(4, 69);
    due.is("one", x.pull(1, 0, 4), 1);
    due.is("lacking of all", x.total(1, 2), 31);
    x.reel(4, 1);
    due.is("all", x.total(1, 2), 60);
    due.is("pulls are as they were", x.total(1, 0), 60);
    due.is("waste too", x.waste(1), 40);
  }

  private static void waste() {
    CutListDesk x = new CutListDesk();
    x.set(1, 0);
    x.edit(1, 0, 10, 10, 2, 1);
    x.edit(1, 0, 11, 9, 2, 1);
    due.is("the gaps are filled", x.waste(1), 0);
    x.trim(1, 1, 0, 10);
    due.is("the same frames twice", x.waste(1), 9);
    x.trim(1, 1, 2, 0);
    due.is("a frozen one", x.waste(1), 9);
    x.trim(1, 0, 2, 1);
    x.trim(1, 0, 3, 6);
    due.is("slow", x.waste(1), 0);
    due.is("two frames", x.total(1, 0), 2);
  }

  private static void refused() {
    CutListDesk x = new CutListDesk();
    x.edit(0, 0, 0, 1, 1, 1);
    for (int list : new int[] {-1, 2, LEAST, MOST}) {
      due.is("bad pulls", x.pulls(list), -2);
      due.is("bad waste", x.waste(list), -2);
      due.is("bad pull", x.pull(list, 0, 0), -2);
      due.is("bad total", x.total(list, 0), -2);
    }
    int[][] bad = {{-1, 0}, {8, 0}, {0, -1}, {0, 5}, {7, 5}, {LEAST, 0}, {MOST, 0}, {0, MOST}, {0, LEAST}};
    for (int[] b : bad) due.is("bad pull", x.pull(0, b[0], b[1]), -2);
    for (int what : new int[] {-1, 3, LEAST, MOST}) due.is("bad total", x.total(0, what), -2);
  }
}
