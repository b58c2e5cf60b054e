/** Promises 19 to 22: compare, gone, anew, saving. */
public final class BothTest {
  private static final int LEAST = Integer.MIN_VALUE, MOST = Integer.MAX_VALUE;
  private static final Due due = new Due();

  public static void main(String[] args) {
    kinds();
    like();
    asLongComesFirst();
    firstNotTaken();
    anew();
    anewLacking();
    saving();
    refused();
    due.end();
  }

  private static void isKind(CutListDesk x, int edit, int kind, int other, int later) {
    due.is("compare(" + edit + ", 0)", x.compare(edit, 0), kind);
    due.is("compare(" + edit + ", 1)", x.compare(edit, 1), other);
    due.is("compare(" + edit + ", 2)", x.compare(edit, 2), later);
  }

  private static void kinds() {
    CutListDesk x = new CutListDesk();
    x.edit(0, 0, 100, 10, 1, 1);
    x.edit(0, 1, 200, 20, 1, 2);
    x.edit(0, 2, 300, 30, 0, 1);
    x.edit(0, 3, 400, 40, 3, 1);
    x.edit(1, 0, 100, 10, 2, 2);
    x.edit(1, 5, 100, 7, 1, 1);
    x.edit(1, 1, 200, 20, 3, 6);
    x.edit(1, 3, 400, 41, 6, 2);
    isKind(x, 0, 1, 0, 0);
    isKind(x, 1, 0, -1, 0);
    isKind(x, 2, 2, 1, 7);
    isKind(x, 3, 3, 3, -23);
    due.is("gone", x.gone(), 4);
    due.is("kept", x.count(5), 1);
    x.swap();
    isKind(x, 0, 1, 0, 0);
    isKind(x, 1, 2, 2, -7);
    isKind(x, 2, 0, -1, 0);
    isKind(x, 3, 3, 3, 23);
    due.is("gone the other way", x.gone(), 2);
    due.is("kept the other way", x.count(5), 1);
    x.trim(1, 3, 1, 41);
    isKind(x, 3, 2, 3, 23);
  }

  private static void like() {
    CutListDesk x = new CutListDesk();
    x.edit(0, 1, 50, 10, 2, 3);
    x.edit(1, 1, 50, 10, 4, 6);
    isKind(x, 0, 1, 0, 0);
    x.trim(1, 0, 2, 5);
    isKind(x, 0, 0, -1, 0);
    x.trim(1, 0, 2, 4);
    x.trim(1, 0, 0, 51);
    isKind(x, 0, 0, -1, 0);
    x.back(1);
    x.edit(1, 2, 50, 10, 2, 3);
    isKind(x, 0, 0, -1, 0);
    due.is("gone", x.gone(), 1);
    x.trim(0, 0, 2, 0);
    x.back(1);
    x.edit(1, 1, 50, 10, 0, 6);
    isKind(x, 0, 1, 0, 0);
    due.is("none gone", x.gone(), 0);
  }

  /** An EDIT that is as LONG takes its like, though one ahead of it could have it as TRIMMED. */
  private static void asLongComesFirst() {
    CutListDesk x = new CutListDesk();
    x.edit(0, 1, 50, 10, 1, 1);
    x.edit(1, 1, 50, 12, 1, 1);
    x.edit(1, 1, 50, 10, 1, 1);
    isKind(x, 0, 0, -1, 0);
    isKind(x, 1, 2, 0, 12);
    x.edit(0, 1, 50, 13, 1, 1);
    isKind(x, 0, 3, 1, -10);
    isKind(x, 1, 2, 0, 12);
    due.is("none gone", x.gone(), 0);
  }

  private static void firstNotTaken() {
    CutListDesk x = new CutListDesk();
    for (int i = 0; i < 3; i++) x.edit(0, 1, 50, 10, 1, 1);
    for (int i = 0; i < 2; i++) x.edit(1, 1, 50, 10, 1, 1);
    isKind(x, 0, 1, 0, 0);
    isKind(x, 1, 1, 1, 0);
    due.is("the third is gone", x.gone(), 4);
    x.trim(1, 0, 1, 11);
    isKind(x, 0, 3, 1, -10);
    isKind(x, 1, 2, 0, 11);
    x.trim(1, 1, 1, 12);
    isKind(x, 0, 3, 0, 0);
    isKind(x, 1, 3, 1, 1);
    due.is("none is kept", x.count(5), 0);
    for (int i = 0; i < 8; i++) x.back(1);
    due.is("all are gone", x.gone(), 7);
    for (int i = 3; i < 8; i++) x.edit(0, 1, 50, 10, 1, 1);
    due.is("all eight are gone", x.gone(), 255);
  }

  private static void anew() {
    CutListDesk x = new CutListDesk();
    x.set(1, 0);
    x.edit(1, 3, 100, 100, 1, 1);
    x.edit(1, 2, 7, 3, 1, 1);
    due.is("all", x.anew(-1), 103);
    due.is("count() 7", x.count(7), 103);
    due.is("by reels", x.anew(0), 2000007);
    due.is("the second reel", x.anew(3), 3000100);
    due.is("the last", x.anew(102), 3000199);
    due.is("no more", x.anew(103), -1);
    due.is("the last that may be asked", x.anew(9999), -1);
    x.edit(0, 3, 110, 10, 1, 1);
    x.edit(0, 3, 150, 10, 2, 1);
    due.is("without two spans", x.anew(-1), 103 - 10 - 19);
    due.is("ahead of the first", x.anew(12), 3000109);
    due.is("behind it", x.anew(13), 3000120);
    due.is("up to the second", x.anew(42), 3000149);
    due.is("skipped ones are pulled", x.anew(43), 3000169);
    due.is("the last is the same", x.anew(73), 3000199);
    due.is("no more then", x.anew(74), -1);
    x.edit(0, 3, 90, 20, 1, 1);
    due.is("from ahead", x.anew(3), 3000120);
    x.edit(0, 3, 190, 200, 1, 1);
    due.is("to behind", x.anew(-1), 3 + 30 + 21);
    x.edit(0, 2, 0, 300, 1, 1);
    due.is("a whole pull", x.anew(0), 3000120);
    x.edit(0, 3, 100, 100, 1, 1);
    due.is("none", x.anew(-1), 0);
    due.is("no first", x.anew(0), -1);
  }

  private static void anewLacking() {
    CutListDesk x = new CutListDesk();
    x.set(1, 0);
    x.edit(1, 5, 100, 100, 1, 1);
    x.edit(1, 5, 1000, 100, 1, 1);
    x.reel(5, 150);
    due.is("what the reel has", x.anew(-1), 50);
    due.is("its last", x.anew(49), 5000149);
    due.is("no more", x.anew(50), -1);
    x.edit(0, 5, 120, 100, 1, 1);
    due.is("less of it", x.anew(-1), 20);
    x.reel(5, 110);
    due.is("still less", x.anew(-1), 10);
    x.reel(5, 100);
    due.is("nothing", x.anew(-1), 0);
    x.reel(5, 101);
    due.is("one", x.anew(0), 5000100);
    CutListDesk y = new CutListDesk();
    y.set(1, 500);
    for (int e = 0; e < 8; e++) y.edit(1, 0, 10000 * e + 1000, 500, 6, 1);
    due.is("many", y.anew(-1), 8 * 3995);
    due.is("the last that may be asked", y.anew(9999), 20500 + 9999 - 2 * 3995);
    due.is("beyond", y.anew(10000), -2);
  }

  private static void saving() {
    CutListDesk x = new CutListDesk();
    x.edit(0, 0, 0, 1, 1, 1);
    due.is("list 1 has none", x.saving(0), -1);
    due.is("nor frames", x.saving(1), -1);
    x.edit(1, 0, 100, 10, 1, 1);
    due.is("the only one", x.saving(0), 0);
    due.is("leaves none", x.saving(1), 0);
    x.edit(1, 1, 100, 50, 1, 1);
    x.edit(1, 2, 100, 50, 1, 1);
    due.is("of like ones the least", x.saving(0), 1);
    due.is("frames then", x.saving(1), 100);
    x.edit(1, 1, 100, 50, 1, 1);
    due.is("one that is pulled anyhow saves none", x.saving(0), 2);
    due.is("frames of the rest", x.saving(1), 100);
    CutListDesk y = new CutListDesk();
    y.set(1, 0);
    y.set(2, 30);
    y.edit(1, 4, 100, 20, 1, 1);
    y.edit(1, 4, 150, 5, 1, 1);
    y.edit(1, 4, 185, 22, 1, 1);
    due.is("joined", y.pulls(1), 1);
    due.is("a short one that joins others", y.saving(0), 1);
    due.is("both others", y.saving(1), 42);
    due.is("nothing was changed", y.total(1, 0), 107);
  }

  private static void refused() {
    CutListDesk x = new CutListDesk();
    for (int i : new int[] {-2, 10000, LEAST, MOST}) due.is("bad anew", x.anew(i), -2);
    for (int what : new int[] {-1, 2, LEAST, MOST}) due.is("bad saving", x.saving(what), -2);
    x.edit(0, 0, 0, 1, 1, 1);
    due.is("an edit of list 0 alone", x.compare(0, 0), -2);
    x.edit(1, 0, 0, 1, 1, 1);
    int[][] bad = {{-1, 0}, {1, 0}, {0, -1}, {0, 3}, {8, 0}, {MOST, 0}, {LEAST, 0}, {0, MOST}, {0, LEAST}};
    for (int[] b : bad) due.is("bad compare", x.compare(b[0], b[1]), -2);
  }
}
