import java.math.BigInteger;
import java.util.ArrayList;
import java.util.List;

/** The bounds of promises 23 to 30, sentence by sentence: sheet, lose, put, get, copy, write, count, digest. */
public final class SheetBoundsTest {
  private static final int LEAST = Twins.LEAST, MOST = Twins.MOST, BAD = Twins.BAD;
  private static final int NULL = Desks.NULL, INDEX = Desks.INDEX, CAST = Desks.CAST, STORE = Desks.STORE, SIZE = Desks.SIZE;
  private static final int[] BITS = {8, 16, 32};
  private static final Due due = new Due();
  private static final Twins twins = new Twins(due);

  public static void main(String[] args) throws Exception {
    Sentences.run(SheetBoundsTest.class, due);
  }

  /** SHEET 3 of a FORM, with items 1, 2, 3 and so on. */
  private static CutListDesk withRow(int form, int n) {
    CutListDesk x = new CutListDesk();
    x.sheet(3, form, n);
    for (int i = 0; i < n; i++) x.put(3, form, i, i + 1);
    return x;
  }

  /** What v is, if only its lowest bits are left: the sign is the highest of them. */
  private static int lowest(int v, int form) {
    int away = 32 - BITS[form];
    return v << away >> away;
  }

  // ---- 23 sheet

  @Says("A SHEET is a new row of a FORM with n items: n. BAD: SHEET, FORM, above 60; SIZE.")
  static void sheetSheet() {
    twins.range(Desks.SOME, 0, 5, 3, 5, (x, v) -> {
      int n = x.sheet(v, 1, 5);
      return n < 0 ? n : x.lose(v);
    });
  }

  @Says("a row of a FORM: 0 bytes, 1 shorts, 2 ints")
  static void sheetForm() {
    twins.range(Desks.SOME, 0, -1, 2, 255, (x, v) -> {
      int n = x.sheet(3, v, 5);
      if (n < 0) return n;
      x.put(3, v, 4, 255);
      return x.get(3, v, 4);
    });
    for (int form = 0; form < 3; form++) {
      CutListDesk x = withRow(form, 1);
      for (int other = 0; other < 3; other++) due.is("as of " + other, x.put(3, other, 0, 1), other == form ? 1 : -13);
    }
  }

  @Says("of 0 to 60 items (0 at first)")
  static void sheetItems() {
    for (int form = 0; form < 3; form++) {
      int of = form;
      due.is("0 items", Desks.NEW.desk().sheet(2, form, 0), 0);
      due.is("60 items", Desks.NEW.desk().sheet(2, form, 60), 60);
      twins.bad("61 items", Desks.SOME, x -> x.sheet(2, of, 61));
      twins.bad("far more", Desks.SOME, x -> x.sheet(2, of, MOST));
      twins.bad("61 items of a SHEET that is LOST", Desks.NEW, x -> x.sheet(2, of, 61));
      CutListDesk none = withRow(form, 0);
      due.is("0 items: no first", none.put(3, form, 0, 1), -12);
      due.is("0 items: none to get", none.get(3, form, 0), LEAST);
      due.is("0 items: it is not LOST", none.lose(3), 0);
      CutListDesk most = withRow(form, 60);
      due.is("60 items: the last", most.get(3, form, 59), 60);
      due.is("60 items: no more", most.put(3, form, 60, 1), -12);
      due.is("60 items", most.lose(3), 60);
    }
  }

  @Says("of 0 to 60 items (0 at first)")
  static void sheetItemsAre0AtFirst() {
    for (int form = 0; form < 3; form++) {
      CutListDesk x = new CutListDesk();
      x.sheet(1, form, 60);
      for (int i = 0; i < 60; i++) due.is("item " + i, x.get(1, form, i), 0);
    }
  }

  @Says("A SHEET is a new row of a FORM with n items")
  static void sheetIsNew() {
    CutListDesk x = withRow(0, 60);
    x.sheet(3, 0, 30);
    x.sheet(3, 0, 60);
    for (int i = 0; i < 60; i++) due.is("item " + i + " is 0 again", x.get(3, 0, i), 0);
    x.put(3, 0, 59, 7);
    x.lose(3);
    x.sheet(3, 2, 60);
    due.is("after it was LOST too", x.get(3, 2, 59), 0);
    due.is("of the new FORM", x.put(3, 0, 0, 1), -13);
  }

  @Says("5 SIZE: below 0.")
  static void sheetSize() {
    for (int n : new int[] {-1, -61, LEAST}) {
      for (int form = 0; form < 3; form++) {
        int of = form;
        twins.finds("n = " + n, Desks.SOME, SIZE, x -> x.sheet(1, of, n));
        twins.finds("n = " + n + " of a SHEET that is LOST", Desks.SOME, SIZE, x -> x.sheet(3, of, n));
      }
    }
  }

  @Says("BAD: SHEET, FORM, above 60; SIZE.")
  static void sheetBadAheadOfSize() {
    twins.beside(Desks.SOME, 0, 3, BAD, (x, v) -> x.sheet(v, 0, -1));
    twins.beside(Desks.SOME, 0, 2, BAD, (x, v) -> x.sheet(0, v, -1));
    twins.beside(Desks.SOME, 0, 3, BAD, (x, v) -> x.sheet(v, 0, 61));
  }

  // ---- 24 lose

  @Says("It is LOST: how many items it had. BAD; NULL.")
  static void loseSheet() {
    twins.range(Desks.FULL, 0, 60, 3, -11, (x, v) -> x.lose(v));
    CutListDesk x = new CutListDesk();
    for (int s = 0; s < 4; s++) x.sheet(s, 0, s + 1);
    for (int s = 0; s < 4; s++) due.is("items of " + s, x.lose(s), s + 1);
  }

  @Says("1 NULL: the SHEET is LOST")
  static void loseNull() {
    twins.finds("LOST", Desks.SOME, NULL, x -> x.lose(3));
    CutListDesk x = withRow(2, 60);
    due.is("60 items", x.lose(3), 60);
    due.is("LOST already", x.lose(3), -11);
    x.sheet(3, 0, 0);
    due.is("0 items", x.lose(3), 0);
    due.is("LOST again", x.lose(3), -11);
  }

  @Says("Refusals, the first that fits, in the order told at each act: BAD -2")
  static void loseBad() {
    twins.beside(Desks.NEW, 0, 3, BAD, (x, v) -> x.lose(v));
  }

  @Says("It is LOST: how many items it had.")
  static void loseForAllActs() {
    CutListDesk x = withRow(2, 60);
    x.sheet(0, 2, 60);
    x.lose(3);
    due.is("put", x.put(3, 2, 0, 1), -11);
    due.is("get", x.get(3, 2, 0), LEAST);
    due.is("copy from", x.copy(3, 0, 0, 0, 1), -11);
    due.is("copy to", x.copy(0, 0, 3, 0, 1), -11);
    due.is("read", x.read(0, 3), -11);
    due.is("write", x.write(0, 3), -11);
    due.is("another is not", x.lose(0), 60);
  }

  // ---- 25 put

  @Says("Item i, treated as of a FORM, becomes v (the lowest bits that it has): 1. BAD; NULL; CAST; INDEX.")
  static void putSheetAndForm() {
    twins.range(Desks.SOME, 0, 1, 3, -11, (x, v) -> x.put(v, 0, 0, 5));
    twins.range(Desks.SOME, 0, 1, 2, -13, (x, v) -> x.put(0, v, 0, 5));
    twins.beside(Desks.NEW, 0, 2, BAD, (x, v) -> x.put(0, v, 0, 5));
  }

  @Says("2 INDEX: there is no such item")
  static void putIndex() {
    for (int n : new int[] {0, 1, 59, 60}) {
      for (int form = 0; form < 3; form++) {
        CutListDesk x = withRow(form, n);
        for (int i : new int[] {-1, n, 60, LEAST, MOST}) due.is("item " + i + " of " + n, x.put(3, form, i, 9), -12);
        due.is("count 8", x.count(8), INDEX);
        for (int i = 0; i < n; i++) due.is("nothing is changed", x.get(3, form, i), i + 1);
        if (n == 0) continue;
        due.is("the first", x.put(3, form, 0, 100), 1);
        due.is("the last", x.put(3, form, n - 1, 101), 1);
        due.is("the first is", x.get(3, form, 0), n == 1 ? 101 : 100);
        due.is("the last is", x.get(3, form, n - 1), 101);
      }
    }
    for (int s = 0; s < 3; s++) {
      int of = s;
      twins.finds("behind the last", Desks.SOME, INDEX, x -> x.put(of, of, 6 + of, 9));
      twins.finds("below 0", Desks.SOME, INDEX, x -> x.put(of, of, -1, 9));
    }
  }

  @Says("3 CAST: it has another FORM")
  static void putCast() {
    for (int s = 0; s < 3; s++) {
      for (int as = 0; as < 3; as++) {
        int of = s, form = as;
        if (s != as) twins.finds("sheet " + s + " as of " + as, Desks.SOME, CAST, x -> x.put(of, form, 0, 9));
      }
    }
  }

  @Says("BAD; NULL; CAST; INDEX.")
  static void putInOrder() {
    twins.beside(Desks.NEW, 0, 3, BAD, (x, v) -> x.put(v, 0, -1, 5));
    twins.beside(Desks.NEW, 0, 2, BAD, (x, v) -> x.put(0, v, -1, 5));
    twins.beside(Desks.SOME, 0, 2, BAD, (x, v) -> x.put(0, v, 60, 5));
    for (int as = 0; as < 3; as++) {
      int form = as;
      twins.finds("NULL ahead of INDEX and CAST", Desks.SOME, NULL, x -> x.put(3, form, -1, 5));
    }
    twins.finds("CAST ahead of INDEX", Desks.SOME, CAST, x -> x.put(0, 1, -1, 5));
    twins.finds("CAST ahead of INDEX above", Desks.SOME, CAST, x -> x.put(2, 0, 8, 5));
    CutListDesk x = withRow(2, 3);
    x.lose(3);
    due.is("NULL ahead of the FORM that it had", x.put(3, 0, 0, 5), -11);
  }

  @Says("becomes v (the lowest bits that it has)")
  static void putLowestBits() {
    int[] values = {0, 1, -1, 127, 128, 129, 255, 256, 257, -127, -128, -129, -255, -256, -257, 32767, 32768, 32769, 65535, 65536, 65537,
        -32768, -32769, -65536, -65537, 0x12345678, 0x89abcdef, MOST, LEAST, MOST - 1, LEAST + 1};
    for (int form = 0; form < 3; form++) {
      CutListDesk x = withRow(form, 3);
      for (int v : values) {
        due.is("put " + v, x.put(3, form, 1, v), 1);
        due.is("of FORM " + form + " " + v + " is", x.get(3, form, 1), lowest(v, form));
      }
      due.is("the one ahead", x.get(3, form, 0), 1);
      due.is("the one behind", x.get(3, form, 2), 3);
    }
  }

  // ---- 26 get

  @Says("Item i of it. BAD: the least int")
  static void getSheetAndForm() {
    due.is("sheet 0", Desks.SOME.desk().get(0, 0, 0), -20);
    due.is("form 2", Desks.SOME.desk().get(2, 2, 0), -2000000);
    twins.beside(Desks.SOME, 0, 3, LEAST, (x, v) -> x.get(v, 0, 0));
    twins.beside(Desks.SOME, 0, 2, LEAST, (x, v) -> x.get(0, v, 0));
    twins.beside(Desks.NEW, 0, 3, LEAST, (x, v) -> x.get(v, 0, -1));
    twins.beside(Desks.NEW, 0, 2, LEAST, (x, v) -> x.get(0, v, -1));
  }

  @Says("so are NULL, CAST, INDEX (count() 8 tells)")
  static void getNull() {
    for (int as = 0; as < 3; as++) {
      int form = as;
      twins.finds("LOST", Desks.SOME, NULL, LEAST, x -> x.get(3, form, 0));
      twins.finds("NULL ahead of INDEX and CAST", Desks.SOME, NULL, LEAST, x -> x.get(3, form, -1));
    }
  }

  @Says("so are NULL, CAST, INDEX (count() 8 tells)")
  static void getCast() {
    for (int s = 0; s < 3; s++) {
      for (int as = 0; as < 3; as++) {
        int of = s, form = as;
        if (s == as) continue;
        twins.finds("sheet " + s + " as of " + as, Desks.SOME, CAST, LEAST, x -> x.get(of, form, 0));
        twins.finds("CAST ahead of INDEX", Desks.SOME, CAST, LEAST, x -> x.get(of, form, 60));
      }
    }
  }

  @Says("so are NULL, CAST, INDEX (count() 8 tells)")
  static void getIndex() {
    for (int n : new int[] {0, 1, 59, 60}) {
      for (int form = 0; form < 3; form++) {
        CutListDesk x = withRow(form, n);
        if (n > 0) due.is("the first", x.get(3, form, 0), 1);
        if (n > 0) due.is("the last", x.get(3, form, n - 1), n);
        due.is("no finding", x.count(8), 0);
        for (int i : new int[] {-1, n, 60, LEAST, MOST}) due.is("item " + i + " of " + n, x.get(3, form, i), LEAST);
        due.is("count 8", x.count(8), INDEX);
      }
    }
    for (int s = 0; s < 3; s++) {
      int of = s;
      twins.finds("behind the last", Desks.SOME, INDEX, LEAST, x -> x.get(of, of, 6 + of));
      twins.finds("below 0", Desks.SOME, INDEX, LEAST, x -> x.get(of, of, -1));
      twins.leaves("the last", Desks.SOME, 99 + s, x -> x.get(of, of, 5 + of));
    }
  }

  // ---- 27 copy

  @Says("BAD: the SHEETS; NULL: s, t; STORE; INDEX: below 0, not so many.")
  static void copySheets() {
    twins.range(Desks.SOME, 0, 1, 3, -11, (x, v) -> x.copy(v, 0, 0, 1, 3));
    twins.range(Desks.SOME, 0, 1, 3, -11, (x, v) -> x.copy(0, 0, v, 1, 3));
    CutListDesk x = withRow(1, 2);
    x.sheet(0, 1, 2);
    due.is("from 3 to 0", x.copy(3, 0, 0, 0, 2), 1);
    due.is("came", x.get(0, 1, 1), 2);
  }

  @Says("NULL: s, t; STORE")
  static void copyNull() {
    for (int s = 0; s < 3; s++) {
      int of = s;
      twins.finds("s is LOST", Desks.SOME, NULL, x -> x.copy(3, 0, of, 0, 1));
      twins.finds("t is LOST", Desks.SOME, NULL, x -> x.copy(of, 0, 3, 0, 1));
      twins.finds("t is LOST, nothing is copied", Desks.SOME, NULL, x -> x.copy(of, 0, 3, 0, 0));
    }
    twins.finds("both are", Desks.SOME, NULL, x -> x.copy(3, 0, 3, 0, 0));
  }

  @Says("4 STORE: unlike FORMS")
  static void copyStore() {
    for (int s = 0; s < 3; s++) {
      for (int t = 0; t < 3; t++) {
        int of = s, to = t;
        if (s == t) continue;
        twins.finds("from " + s + " to " + t, Desks.SOME, STORE, x -> x.copy(of, 0, to, 0, 1));
        twins.finds("none from " + s + " to " + t, Desks.SOME, STORE, x -> x.copy(of, 0, to, 0, 0));
      }
    }
    CutListDesk x = new CutListDesk();
    x.sheet(0, 0, 0);
    x.sheet(1, 2, 0);
    due.is("rows without items", x.copy(0, 0, 1, 0, 0), -14);
  }

  @Says("INDEX: below 0, not so many.")
  static void copyIndexBelow0() {
    for (int below : new int[] {-1, LEAST}) {
      twins.finds("i", Desks.SOME, INDEX, x -> x.copy(2, below, 2, 0, 1));
      twins.finds("j", Desks.SOME, INDEX, x -> x.copy(2, 0, 2, below, 1));
      twins.finds("n", Desks.SOME, INDEX, x -> x.copy(2, 0, 2, 0, below));
      twins.finds("i, none", Desks.SOME, INDEX, x -> x.copy(2, below, 2, 0, 0));
      twins.finds("j, none", Desks.SOME, INDEX, x -> x.copy(2, 0, 2, below, 0));
      twins.finds("n from the last", Desks.SOME, INDEX, x -> x.copy(2, 7, 2, 7, below));
    }
    twins.finds("all", Desks.SOME, INDEX, x -> x.copy(2, LEAST, 2, LEAST, LEAST));
  }

  @Says("INDEX: below 0, not so many.")
  static void copyIndexNotSoMany() {
    int[][] wrong = {{0, 0, 9}, {1, 0, 8}, {0, 1, 8}, {7, 0, 2}, {0, 7, 2}, {8, 0, 1}, {0, 8, 1}, {9, 0, 0}, {0, 9, 0}, {0, 0, MOST}, {MOST, 0, 0},
        {0, MOST, 0}, {MOST, 0, MOST}, {0, MOST, MOST}, {1, 1, MOST}, {MOST, MOST, 2}, {MOST - 1, 0, 3}};
    for (int[] w : wrong) twins.finds(w[0] + ", " + w[1] + ", " + w[2], Desks.SOME, INDEX, x -> x.copy(2, w[0], 2, w[1], w[2]));
    CutListDesk x = new CutListDesk();
    x.sheet(0, 0, 5);
    x.sheet(1, 0, 3);
    due.is("s has so many, t has not", x.copy(0, 0, 1, 0, 4), -12);
    due.is("t has so many, s has not", x.copy(1, 0, 0, 0, 4), -12);
    due.is("both have", x.copy(0, 2, 1, 0, 3), 1);
    due.is("s has not from there on", x.copy(0, 3, 1, 0, 3), -12);
  }

  @Says("BAD: the SHEETS; NULL: s, t; STORE; INDEX: below 0, not so many.")
  static void copyInOrder() {
    twins.beside(Desks.NEW, 0, 3, BAD, (x, v) -> x.copy(v, -1, 3, -1, -1));
    twins.beside(Desks.NEW, 0, 3, BAD, (x, v) -> x.copy(3, -1, v, -1, -1));
    twins.beside(Desks.SOME, 0, 3, BAD, (x, v) -> x.copy(0, -1, v, 0, 1));
    twins.finds("NULL ahead of INDEX: s", Desks.SOME, NULL, x -> x.copy(3, -1, 0, -1, -1));
    twins.finds("NULL ahead of INDEX: t", Desks.SOME, NULL, x -> x.copy(0, -1, 3, -1, -1));
    twins.finds("STORE ahead of INDEX", Desks.SOME, STORE, x -> x.copy(0, -1, 1, 0, 1));
    twins.finds("STORE ahead of INDEX: n", Desks.SOME, STORE, x -> x.copy(0, 0, 1, 0, -1));
    twins.finds("STORE ahead of INDEX: j", Desks.SOME, STORE, x -> x.copy(0, 0, 1, 60, 1));
    CutListDesk x = withRow(2, 3);
    x.sheet(0, 0, 3);
    x.lose(3);
    due.is("NULL ahead of the FORM that it had", x.copy(3, 0, 0, 0, 1), -11);
  }

  @Says("n items of SHEET s, from i on, come to SHEET t (perhaps s, as they were), from j on: 1.")
  static void copyNone() {
    for (int at : new int[] {0, 7, 8}) {
      twins.leaves("none from " + at, Desks.SOME, 1, x -> x.copy(2, at, 2, 0, 0));
      twins.leaves("none to " + at, Desks.SOME, 1, x -> x.copy(2, 0, 2, at, 0));
    }
    CutListDesk x = withRow(0, 0);
    due.is("none of none", x.copy(3, 0, 3, 0, 0), 1);
    due.is("one of none", x.copy(3, 0, 3, 0, 1), -12);
  }

  @Says("n items of SHEET s, from i on, come to SHEET t (perhaps s, as they were), from j on: 1.")
  static void copyWhole() {
    for (int form = 0; form < 3; form++) {
      CutListDesk x = withRow(form, 60);
      x.sheet(0, form, 60);
      due.is("61", x.copy(3, 0, 0, 0, 61), -12);
      due.is("60", x.copy(3, 0, 0, 0, 60), 1);
      for (int i = 0; i < 60; i++) due.is("item " + i, x.get(0, form, i), i + 1);
      x.put(0, form, 0, 77);
      due.is("they are apart", x.get(3, form, 0), 1);
    }
  }

  @Says("(perhaps s, as they were)")
  static void copyInItself() {
    for (int by : new int[] {1, 2, 29, 30, 31, 59}) {
      CutListDesk up = withRow(2, 60);
      due.is("up", up.copy(3, 0, 3, by, 60 - by), 1);
      for (int i = 0; i < 60; i++) due.is("up by " + by, up.get(3, 2, i), i < by ? i + 1 : i - by + 1);
      CutListDesk down = withRow(2, 60);
      due.is("down", down.copy(3, by, 3, 0, 60 - by), 1);
      for (int i = 0; i < 60; i++) due.is("down by " + by, down.get(3, 2, i), i < 60 - by ? i + by + 1 : i + 1);
    }
    twins.leaves("onto itself", Desks.SOME, 1, x -> x.copy(2, 0, 2, 0, 8));
  }

  // ---- 28 write

  @Says("as many as there are items: how many items. BAD; NULL.")
  static void writeListAndSheet() {
    twins.range(Desks.SOME, 0, 6, 1, 8, (x, v) -> x.write(v, 2));
    twins.range(Desks.SOME, 0, 6, 3, -11, (x, v) -> x.write(1, v));
    CutListDesk x = Desks.SOME.desk();
    x.sheet(3, 2, 1);
    due.is("sheet 3", x.write(0, 3), 1);
    due.is("its item", x.get(3, 2, 0), 93);
  }

  @Says("1 NULL: the SHEET is LOST")
  static void writeNull() {
    for (int list = 0; list < 2; list++) {
      int of = list;
      twins.finds("LOST", Desks.SOME, NULL, x -> x.write(of, 3));
      twins.finds("no PULLS either", Desks.NEW, NULL, x -> x.write(of, 0));
    }
    twins.beside(Desks.NEW, 0, 1, BAD, (x, v) -> x.write(v, 0));
    twins.beside(Desks.NEW, 0, 3, BAD, (x, v) -> x.write(0, v));
  }

  @Says("First and last frames of PULLS, in twos, come to a SHEET")
  static void writeOfNone() {
    CutListDesk x = withRow(2, 60);
    due.is("no PULLS", x.write(0, 3), 0);
    for (int i = 0; i < 60; i++) due.is("nothing is changed", x.get(3, 2, i), i + 1);
    due.is("no finding", x.count(8), 0);
  }

  @Says("from item 0 on, as many as there are items: how many items.")
  static void writeAsManyAsThereAre() {
    int[] want = {990, 1509, 30990, 31509, 5990, 6259, 35990, 36259, 10990, 11176, 15990, 16134, 20990, 21109, 25990, 26093};
    for (int n = 0; n <= 60; n++) {
      CutListDesk x = Desks.FULL.desk();
      x.sheet(3, 2, n);
      for (int i = 0; i < n; i++) x.put(3, 2, i, -i - 1);
      due.is(n + " items", x.write(1, 3), Math.min(n, 16));
      for (int i = 0; i < n; i++) due.is("item " + i + " of " + n, x.get(3, 2, i), i < 16 ? want[i] : -i - 1);
      due.is("they stay so many", x.lose(3), n);
    }
  }

  @Says("come to a SHEET (the lowest bits that it has)")
  static void writeLowestBits() {
    int[][] edits = {{117, 1}, {118, 1}, {245, 1}, {246, 1}, {32757, 1}, {32758, 1}, {65525, 1}, {65526, 1}, {199999, 500}, {0, 1}};
    for (int[] e : edits) {
      for (int form = 0; form < 3; form++) {
        CutListDesk x = withRow(form, 3);
        x.edit(0, 1, e[0], e[1], 6, 1);
        due.is("write", x.write(0, 3), 2);
        due.is("first", x.get(3, form, 0), lowest(Math.max(0, e[0] - 10), form));
        due.is("last", x.get(3, form, 1), lowest(e[0] + 6 * (e[1] - 1) + 10, form));
        due.is("the next is as it was", x.get(3, form, 2), 3);
      }
    }
  }

  // ---- 29 count

  @Says("8 the number of the latest FINDING (0 before any). BAD.")
  static void countWhat() {
    twins.range(Desks.SOME, 0, 3, 8, 0, (x, v) -> x.count(v));
    int[] want = {3, 4, 42, 52, 4, 0, 0, 5 + 13 + 17};
    for (int what = 0; what < 8; what++) {
      int of = what;
      twins.leaves("count " + what, Desks.SOME, want[what], x -> x.count(of));
    }
  }

  @Says("0, 1 EDITS of LIST 0, 1, 2, 3 frames of the cut, 4 PULLS of LIST 1, 5 how many are KEPT, 6 COUNTING, 7 how many are ANEW")
  static void countOfNoneAndOfFull() {
    int[] full = {8, 8, 4000, 4000, 8, 0, 0, 499 + 249};
    for (int what = 0; what < 8; what++) {
      int of = what;
      twins.leaves("count " + what + " of none", Desks.NEW, 0, x -> x.count(of));
      twins.leaves("count " + what + " of all", Desks.FULL, full[what], x -> x.count(of));
    }
    CutListDesk x = new CutListDesk();
    for (int way = 0; way <= 2; way++) {
      x.set(0, way);
      due.is("COUNTING", x.count(6), way);
    }
  }

  @Says("FINDINGS (answers -10 less the number; they change nothing but count() 8)")
  static void countLatestFinding() {
    CutListDesk x = Desks.SOME.desk();
    due.is("NULL", x.lose(3), -11);
    due.is("1", x.count(8), 1);
    due.is("INDEX", x.put(0, 0, 6, 1), -12);
    due.is("2", x.count(8), 2);
    due.is("CAST", x.put(0, 2, 0, 1), -13);
    due.is("3", x.count(8), 3);
    due.is("STORE", x.copy(0, 0, 2, 0, 1), -14);
    due.is("4", x.count(8), 4);
    due.is("SIZE", x.sheet(0, 0, -1), -15);
    due.is("5", x.count(8), 5);
    due.is("a call that is not refused", x.sheet(0, 0, 1), 1);
    due.is("5 still", x.count(8), 5);
    due.is("NULL again", x.read(0, 3), -11);
    due.is("1 again", x.count(8), 1);
  }

  @Says("8 the number of the latest FINDING (0 before any)")
  static void countFindingStays() {
    CutListDesk x = Desks.SOME.desk(SIZE);
    Twins.Call[] taken = {d -> d.edit(0, 0, 0, 1, 1, 1), d -> d.back(0), d -> d.trim(0, 0, 0, 5), d -> d.set(1, 5), d -> d.reel(0, 5), d -> d.swap(),
        d -> d.read(0, 0), d -> d.info(0, 0, 0), d -> d.shows(0, 0, 0), d -> d.seen(0, 0, 0, 0), d -> d.still(0, 0, 0), d -> d.told(0, 0),
        d -> d.number(0, 0, 0, 0), d -> d.pulls(0), d -> d.pull(0, 0, 0), d -> d.waste(0), d -> d.total(0, 0), d -> d.compare(0, 0),
        d -> d.gone(), d -> d.anew(-1), d -> d.saving(0), d -> d.put(0, 0, 0, 1), d -> d.get(0, 0, 0), d -> d.copy(0, 0, 0, 1, 1),
        d -> d.write(0, 0), d -> d.count(0), d -> d.sheet(0, 0, 5), d -> d.lose(0)};
    for (int i = 0; i < taken.length; i++) {
      due.holds("call " + i + " is not refused", taken[i].on(x) >= 0);
      due.is("the latest after call " + i, x.count(8), SIZE);
    }
    due.holds("a digest", x.digest() != 0);
    due.is("the latest after all", x.count(8), SIZE);
  }

  // ---- 30 digest

  /** The answers of which the digest is made, by the public face, in the order of the document. */
  private static List<Integer> answers(CutListDesk x) {
    List<Integer> all = new ArrayList<>();
    for (int w = 0; w <= 7; w++) all.add(x.count(w));
    for (int list = 0; list < 2; list++) {
      int edits = x.count(list);
      for (int e = 0; e < edits; e++) {
        for (int w = 0; w <= 7; w++) all.add(x.info(list, e, w));
        for (int w = 0; w <= 1; w++) all.add(x.still(list, e, w));
      }
      for (int i = 0; i <= 7; i++) for (int w = 0; w <= 4; w++) all.add(x.pull(list, i, w));
      all.add(x.waste(list));
      for (int w = 0; w <= 2; w++) all.add(x.total(list, w));
      for (int w = 0; w <= 3; w++) all.add(x.shows(list, 7, w));
      for (int w = 0; w <= 1; w++) all.add(x.seen(list, 1, 100, w));
    }
    int edits = x.count(1);
    for (int e = 0; e < edits; e++) for (int w = 0; w <= 2; w++) all.add(x.compare(e, w));
    all.add(x.gone());
    for (int i : new int[] {-1, 0, 25}) all.add(x.anew(i));
    for (int w = 0; w <= 1; w++) all.add(x.saving(w));
    for (int f : new int[] {1799, 1800, 17982}) for (int w = 0; w <= 3; w++) all.add(x.told(f, w));
    all.add(x.number(0, 1, 0, 0));
    all.add(x.number(0, 10, 0, 0));
    all.add(x.number(1, 2, 3, 4));
    return all;
  }

  private static BigInteger withoutWrap(List<Integer> all) {
    BigInteger h = BigInteger.valueOf(17);
    for (int a : all) h = h.multiply(BigInteger.valueOf(31)).add(BigInteger.valueOf(a));
    return h;
  }

  @Says("as longs that wrap.")
  static void digestWraps() {
    for (Desks from : Desks.values()) {
      BigInteger whole = withoutWrap(answers(from.desk()));
      due.holds("it goes far beyond a long", whole.bitLength() > 64);
      due.is("digest of " + from, from.desk().digest(), whole.longValue());
      due.holds("it is no int", from.desk().digest() != (int) from.desk().digest());
    }
  }

  @Says("h is 17; h becomes 31 h and each of: count() 0 to 7")
  static void digestInEachCounting() {
    for (int way = 0; way < 3; way++) {
      CutListDesk x = Desks.SOME.desk();
      x.set(0, way);
      x.edit(0, 1, 95, 500, 1, 6);
      x.edit(1, 1, 100, 1, 0, 6);
      due.is("digest", x.digest(), withoutWrap(answers(x)).longValue());
    }
  }

  @Says("h is 17; h becomes 31 h and each of: count() 0 to 7")
  static void digestWithoutFindings() {
    long want = Desks.SOME.desk().digest();
    for (int latest = 0; latest <= 5; latest++) {
      int of = latest;
      due.is("with finding " + latest, Desks.SOME.desk(of).digest(), want);
    }
    twins.leaves("it changes nothing", Desks.SOME, want, x -> x.digest());
    CutListDesk x = Desks.SOME.desk();
    x.put(2, 2, 0, 5);
    x.lose(0);
    due.is("SHEETS are not of it", x.digest(), want);
  }
}
