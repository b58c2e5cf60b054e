/** Promises 23 to 30: sheet, lose, put, get, copy, write, count, digest. */
public final class SheetsTest {
  private static final int LEAST = Integer.MIN_VALUE, MOST = Integer.MAX_VALUE;
  private static final Due due = new Due();

  public static void main(String[] args) {
    sheet();
    lose();
    put();
    get();
    copy();
    copyRefused();
    write();
    count();
    digest();
    due.end();
  }

  private static void finding(CutListDesk x, String call, int got, int number) {
    due.is(call, got, -10 - number);
    due.is(call + ": finding", x.count(8), number);
  }

  private static void sheet() {
    CutListDesk x = new CutListDesk();
    int[][] bad = {{-1, 0, 1}, {4, 0, 1}, {0, -1, 1}, {0, 3, 1}, {0, 0, 61}, {0, 0, MOST}, {LEAST, 0, 1}, {0, MOST, 1}, {-1, 0, -1}, {0, 3, -1}};
    for (int[] b : bad) due.is("bad sheet", x.sheet(b[0], b[1], b[2]), -2);
    due.is("no finding", x.count(8), 0);
    finding(x, "size -1", x.sheet(0, 0, -1), 5);
    finding(x, "still lost", x.lose(0), 1);
    finding(x, "least size", x.sheet(0, 0, LEAST), 5);
    due.is("none", x.sheet(3, 2, 0), 0);
    due.is("most", x.sheet(0, 1, 60), 60);
    for (int i = 0; i < 60; i++) {
      due.is("0 at first", x.get(0, 1, i), 0);
      x.put(0, 1, i, i + 1);
    }
    due.is("a new row", x.sheet(0, 2, 60), 60);
    for (int i = 0; i < 60; i++) due.is("0 again", x.get(0, 2, i), 0);
    x.put(0, 2, 0, 9);
    finding(x, "refused", x.sheet(0, 1, -5), 5);
    due.is("nothing was changed", x.get(0, 2, 0), 9);
  }

  private static void lose() {
    CutListDesk x = new CutListDesk();
    for (int s : new int[] {-1, 4, LEAST, MOST}) due.is("bad lose", x.lose(s), -2);
    due.is("no finding", x.count(8), 0);
    finding(x, "lost at first", x.lose(2), 1);
    x.sheet(2, 0, 17);
    due.is("items", x.lose(2), 17);
    finding(x, "lost", x.lose(2), 1);
    x.sheet(2, 0, 0);
    due.is("no items", x.lose(2), 0);
  }

  private static void put() {
    CutListDesk x = new CutListDesk();
    int[][] bad = {{-1, 0}, {4, 0}, {0, -1}, {0, 3}, {MOST, 0}, {0, LEAST}};
    for (int[] b : bad) due.is("bad put", x.put(b[0], b[1], 0, 0), -2);
    due.is("no finding", x.count(8), 0);
    finding(x, "NULL ahead of INDEX", x.put(0, 0, -1, 0), 1);
    for (int form = 0; form < 3; form++) x.sheet(form, form, 3);
    int[] values = {0, 1, -1, 127, 128, -128, -129, 255, 256, 32767, 32768, -32768, -32769, 65535, 65536, MOST, LEAST};
    for (int v : values) {
      for (int form = 0; form < 3; form++) due.is("put " + v, x.put(form, form, 2, v), 1);
      due.is("byte of " + v, x.get(0, 0, 2), (byte) v);
      due.is("short of " + v, x.get(1, 1, 2), (short) v);
      due.is("int of " + v, x.get(2, 2, 2), v);
    }
    due.is("its neighbour", x.get(2, 2, 1), 0);
    finding(x, "CAST ahead of INDEX", x.put(0, 1, 3, 0), 3);
    finding(x, "INDEX", x.put(0, 0, 3, 0), 2);
    finding(x, "CAST", x.put(0, 2, 0, 0), 3);
    finding(x, "below", x.put(1, 1, -1, 0), 2);
    finding(x, "CAST of ints", x.put(2, 0, 0, 0), 3);
    finding(x, "least", x.put(1, 1, LEAST, 0), 2);
    finding(x, "CAST of shorts", x.put(1, 2, 0, 0), 3);
    finding(x, "most", x.put(1, 1, MOST, 0), 2);
    due.is("BAD leaves the finding", x.put(4, 0, 0, 0), -2);
    due.is("the latest", x.count(8), 2);
    due.is("a put leaves it too", x.put(1, 1, 0, 5), 1);
    due.is("still the latest", x.count(8), 2);
  }

  private static void get() {
    CutListDesk x = new CutListDesk();
    int[][] bad = {{-1, 0}, {4, 0}, {0, -1}, {0, 3}, {LEAST, 0}, {0, MOST}};
    for (int[] b : bad) due.is("bad get", x.get(b[0], b[1], 0), LEAST);
    due.is("no finding", x.count(8), 0);
    due.is("NULL", x.get(0, 0, -1), LEAST);
    due.is("NULL is told", x.count(8), 1);
    x.sheet(0, 1, 2);
    due.is("CAST", x.get(0, 2, 2), LEAST);
    due.is("CAST is told", x.count(8), 3);
    due.is("INDEX", x.get(0, 1, 2), LEAST);
    due.is("INDEX is told", x.count(8), 2);
    x.put(0, 1, 1, -7);
    due.is("get", x.get(0, 1, 1), -7);
    due.is("CAST of bytes", x.get(0, 0, 1), LEAST);
    due.is("below", x.get(0, 1, -1), LEAST);
    due.is("INDEX again", x.count(8), 2);
    x.sheet(1, 2, 1);
    x.put(1, 2, 0, LEAST);
    due.is("the least int may be an item", x.get(1, 2, 0), LEAST);
    x.lose(0);
    due.is("lost again", x.get(0, 1, 1), LEAST);
    due.is("NULL again", x.count(8), 1);
  }

  private static CutListDesk rows() {
    CutListDesk x = new CutListDesk();
    x.sheet(0, 2, 6);
    x.sheet(1, 2, 4);
    x.sheet(2, 1, 6);
    for (int i = 0; i < 6; i++) x.put(0, 2, i, 1000000 + i);
    for (int i = 0; i < 4; i++) x.put(1, 2, i, -i - 1);
    return x;
  }

  private static void isRow(CutListDesk x, int s, int... want) {
    for (int i = 0; i < want.length; i++) due.is("item " + i + " of " + s, x.get(s, 2, i), want[i]);
  }

  private static void copy() {
    CutListDesk x = rows();
    due.is("copy", x.copy(0, 4, 1, 1, 2), 1);
    isRow(x, 1, -1, 1000004, 1000005, -4);
    isRow(x, 0, 1000000, 1000001, 1000002, 1000003, 1000004, 1000005);
    due.is("up in itself", x.copy(0, 0, 0, 1, 4), 1);
    isRow(x, 0, 1000000, 1000000, 1000001, 1000002, 1000003, 1000005);
    due.is("down in itself", x.copy(0, 2, 0, 1, 4), 1);
    isRow(x, 0, 1000000, 1000001, 1000002, 1000003, 1000005, 1000005);
    due.is("none at the ends", x.copy(0, 6, 1, 4, 0), 1);
    due.is("a whole row", x.copy(1, 0, 0, 2, 4), 1);
    isRow(x, 0, 1000000, 1000001, -1, 1000004, 1000005, -4);
    due.is("no finding", x.count(8), 0);
  }

  private static void copyRefused() {
    CutListDesk x = rows();
    int[][] bad = {{-1, 0}, {4, 0}, {0, -1}, {0, 4}, {MOST, 0}, {0, LEAST}};
    for (int[] b : bad) due.is("bad copy", x.copy(b[0], 0, b[1], 0, 0), -2);
    due.is("BAD ahead of NULL", x.copy(3, 0, 4, 0, 0), -2);
    due.is("no finding", x.count(8), 0);
    finding(x, "s is lost", x.copy(3, -1, 0, 0, 0), 1);
    finding(x, "STORE", x.copy(0, -1, 2, 0, 1), 4);
    finding(x, "t is lost", x.copy(0, 0, 3, 0, -1), 1);
    finding(x, "STORE of none", x.copy(2, 0, 0, 0, 0), 4);
    int[][] index = {{-1, 0, 1}, {0, -1, 1}, {0, 0, -1}, {6, 0, 1}, {0, 4, 1}, {3, 0, 4}, {0, 1, 4}, {7, 0, 0}, {0, 5, 0},
        {MOST, 0, 1}, {0, MOST, 1}, {0, 0, MOST}, {1, 1, MOST}, {MOST, MOST, MOST}, {LEAST, LEAST, LEAST}, {1, 0, LEAST}};
    for (int[] b : index) {
      x.copy(3, 0, 3, 0, 0);
      finding(x, "INDEX", x.copy(0, b[0], 1, b[1], b[2]), 2);
    }
    isRow(x, 1, -1, -2, -3, -4);
  }

  private static void write() {
    CutListDesk x = new CutListDesk();
    int[][] bad = {{-1, 0}, {2, 0}, {0, -1}, {0, 4}, {MOST, 0}, {0, LEAST}};
    for (int[] b : bad) due.is("bad write", x.write(b[0], b[1]), -2);
    due.is("no finding", x.count(8), 0);
    finding(x, "NULL", x.write(0, 0), 1);
    x.edit(1, 3, 199999, 500, 6, 1);
    x.edit(1, 0, 300, 10, 1, 1);
    x.sheet(0, 2, 6);
    x.put(0, 2, 4, 77);
    due.is("write", x.write(1, 0), 4);
    isRow(x, 0, 290, 319, 199989, 203003, 77, 0);
    x.sheet(0, 2, 3);
    due.is("as many as there are items", x.write(1, 0), 3);
    isRow(x, 0, 290, 319, 199989);
    x.sheet(1, 1, 60);
    due.is("shorts", x.write(1, 1), 4);
    due.is("lowest bits", x.get(1, 1, 2), (short) 199989);
    x.sheet(1, 0, 60);
    due.is("bytes", x.write(1, 1), 4);
    due.is("lowest bits", x.get(1, 0, 3), (byte) 203003);
    due.is("list 0 has none", x.write(0, 1), 0);
    x.sheet(1, 0, 0);
    due.is("no items", x.write(1, 1), 0);
  }

  private static void count() {
    CutListDesk x = new CutListDesk();
    for (int what : new int[] {-1, 9, LEAST, MOST}) due.is("bad count", x.count(what), -2);
    x.edit(0, 0, 100, 10, 1, 1);
    x.edit(1, 0, 100, 10, 1, 1);
    x.edit(1, 1, 100, 20, 1, 1);
    x.edit(1, 0, 100, 10, 1, 1);
    x.set(0, 2);
    x.sheet(0, 0, -1);
    int[] want = {1, 3, 10, 40, 2, 1, 2, 40, 5};
    for (int what = 0; what <= 8; what++) due.is("count " + what, x.count(what), want[what]);
  }

  /** h of a row of answers, written out as the document tells them. */
  private static long hash(int... answers) {
    long h = 17;
    for (int a : answers) h = 31 * h + a;
    return h;
  }

  private static void digest() {
    CutListDesk x = new CutListDesk();
    int n = -1;
    due.is("digest of a new object", x.digest(), hash(0, 0, 0, 0, 0, 0, 0, 0,
        n, n, n, n, n, n, n, n, n, n, n, n, n, n, n, n, n, n, n, n, n, n, n, n, n, n, n, n, n, n, n, n, n, n, n, n, n, n, n, n,
        0, 0, 0, 0, n, n, n, n, 0, n,
        n, n, n, n, n, n, n, n, n, n, n, n, n, n, n, n, n, n, n, n, n, n, n, n, n, n, n, n, n, n, n, n, n, n, n, n, n, n, n, n,
        0, 0, 0, 0, n, n, n, n, 0, n,
        0, 0, n, n, n, n,
        0, 0, 59, 29, 0, 1, 0, 2, 0, 10, 0, 0, -3, 17982, 111694 - 2 * 56));
    x.edit(0, 2, 40, 5, 1, 1);
    x.edit(1, 1, 95, 9, 2, 1);
    x.set(0, 2);
    x.reel(1, 100);
    x.lose(0);
    due.is("digest", x.digest(), hash(1, 1, 5, 9, 1, 0, 2, 15,
        2, 40, 5, 1, 1, 0, 40, 44, 0, 0,
        2, 30, 54, 1, 0, n, n, n, n, n, n, n, n, n, n, n, n, n, n, n, n, n, n, n, n, n, n, n, n, n, n, n, n, n, n, n, n, n, n, n,
        20, 25, 5, 0, n, n, n, n, 0, n,
        1, 95, 9, 2, 1, 0, 95, 111, 0, 8,
        1, 85, 121, 1, 22, n, n, n, n, n, n, n, n, n, n, n, n, n, n, n, n, n, n, n, n, n, n, n, n, n, n, n, n, n, n, n, n, n, n, n,
        28, 37, 9, 22, 0, 1, 109, 1, 0, n,
        0, n, 0,
        1, 15, 1000085, n, 0, 0,
        0, 1, 11, 24, 0, 1, 12, 0, 0, 11, 59, 7, 1500, 15000, 93079));
    due.is("digest is no finding", x.count(8), 1);
  }
}
