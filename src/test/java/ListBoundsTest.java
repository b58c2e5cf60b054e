/** The bounds of promises 1 to 8, sentence by sentence: a new object, edit, back, trim, set, reel, swap, read. */
public final class ListBoundsTest {
  private static final int LEAST = Twins.LEAST, MOST = Twins.MOST, BAD = Twins.BAD, NOT = Twins.NOT, FULL = Twins.FULL;
  private static final Due due = new Due();
  private static final Twins twins = new Twins(due);

  public static void main(String[] args) throws Exception {
    Sentences.run(ListBoundsTest.class, due);
  }

  // ---- 1 a new object

  @Says("No EDITS, LENGTHS 100000, COUNTING 0, HANDLE 10, NEAR 0")
  static void newHasNoEdits() {
    CutListDesk x = Desks.NEW.desk();
    for (int list = 0; list < 2; list++) {
      due.is("edits", x.count(list), 0);
      due.is("frames", x.count(2 + list), 0);
      due.is("no edit 0", x.info(list, 0, 0), BAD);
      due.is("back", x.back(list), NOT);
    }
  }

  @Says("each with a LENGTH (1 to 200000 frames; 100000 at first): frames 0 on")
  static void newHasLengths() {
    for (int r = 0; r < 6; r++) {
      CutListDesk x = Desks.NEW.desk();
      x.edit(0, r, 99999, 2, 1, 1);
      due.is("reel " + r + " has 99999", x.shows(0, 0, 3), 0);
      due.is("reel " + r + " lacks 100000", x.shows(0, 1, 3), 1);
      due.is("length of " + r, x.reel(r, 1), 100000);
    }
  }

  @Says("COUNTING (0 to 2; 0 at first)")
  static void newIsDropping() {
    CutListDesk x = Desks.NEW.desk();
    due.is("left out", x.number(0, 1, 0, 1), NOT);
    due.is("count 6", x.count(6), 0);
    due.is("was", x.set(0, 1), 0);
  }

  @Says("HANDLE (0 to 500; 10 at first)")
  static void newHasHandle() {
    CutListDesk x = Desks.NEW.desk();
    x.edit(0, 0, 11, 1, 1, 1);
    due.is("first", x.pull(0, 0, 1), 1);
    due.is("last", x.pull(0, 0, 2), 21);
    due.is("was", x.set(1, 0), 10);
  }

  @Says("NEAR frames (0 to 500; 0 at first)")
  static void newHasNear() {
    CutListDesk x = Desks.NEW.desk();
    x.edit(0, 0, 100, 1, 1, 1);
    x.edit(0, 0, 121, 1, 1, 1);
    due.is("next to each other", x.pulls(0), 1);
    x.trim(0, 1, 0, 122);
    due.is("one between", x.pulls(0), 2);
    due.is("was", x.set(2, 1), 0);
  }

  @Says("SHEETS 0 .. 3 are LOST (at first)")
  static void newHasNoSheets() {
    for (int s = 0; s < 4; s++) {
      int sheet = s;
      twins.finds("lose", Desks.NEW, Desks.NULL, x -> x.lose(sheet));
      for (int form = 0; form < 3; form++) {
        int as = form;
        twins.finds("put", Desks.NEW, Desks.NULL, x -> x.put(sheet, as, 0, 0));
        twins.finds("get", Desks.NEW, Desks.NULL, LEAST, x -> x.get(sheet, as, 0));
      }
    }
  }

  @Says("8 the number of the latest FINDING (0 before any)")
  static void newHasNoFinding() {
    due.is("count 8", new CutListDesk().count(8), 0);
  }

  @Says("An object is used for at most 512 calls after it has been made")
  static void lastCallOfAll() {
    CutListDesk x = new CutListDesk();
    for (int round = 0; round < 25; round++) {
      for (int e = 1; e <= 8; e++) x.edit(1, 0, 7 * e, 500, 1, 1);
      x.sheet(round % 4, 2, 60);
      x.put(round % 4, 2, 59, round);
      x.trim(1, 7, 1, 499);
      x.swap();
      for (int e = 0; e < 8; e++) x.back(0);
    }
    for (int e = 1; e <= 8; e++) due.is("edit " + e, x.edit(0, 5, 7 * e, 500, 1, 1), e);
    due.is("call 509", x.edit(0, 5, 0, 1, 1, 1), FULL);
    due.is("call 510", x.count(2), 4000);
    due.is("call 511", x.get(0, 2, 59), 24);
    due.is("call 512", x.shows(0, 3999, 2), 56 + 499);
  }

  // ---- 2 edit

  private static long edited(CutListDesk x, int what, int... e) {
    int many = x.edit(e[0], e[1], e[2], e[3], e[4], e[5]);
    return many < 0 ? many : x.info(e[0], many - 1, what);
  }

  @Says("LISTS are 0 (the cut as it was) and 1 (as it is)")
  static void editList() {
    twins.range(Desks.SOME, 0, 4, 1, 5, (x, v) -> x.edit(v, 0, 0, 1, 1, 1));
    CutListDesk x = Desks.SOME.desk();
    x.edit(0, 0, 0, 1, 1, 1);
    due.is("list 0 has one more", x.count(0), 4);
    due.is("list 1 has none more", x.count(1), 4);
  }

  @Says("REELS are 0 to 5")
  static void editReel() {
    twins.range(Desks.SOME, 0, 0, 5, 5, (x, v) -> edited(x, 0, 0, v, 0, 1, 1, 1));
  }

  @Says("from a frame IN (0 to 199999) on")
  static void editIn() {
    twins.range(Desks.SOME, 0, 0, 199999, 199999, (x, v) -> edited(x, 1, 0, 0, v, 1, 1, 1));
  }

  @Says("LONG so many frames of the cut (1 to 500)")
  static void editLong() {
    twins.range(Desks.SOME, 1, 1, 500, 500, (x, v) -> edited(x, 2, 0, 0, 0, v, 1, 1));
    due.is("at 0", Desks.NEW.desk().edit(0, 0, 0, 0, 1, 1), BAD);
  }

  @Says("at a SPEED p by q (p 0 to 6, q 1 to 6")
  static void editP() {
    twins.range(Desks.SOME, 0, 0, 6, 6, (x, v) -> edited(x, 3, 0, 0, 0, 1, v, 1));
  }

  @Says("at a SPEED p by q (p 0 to 6, q 1 to 6")
  static void editQ() {
    twins.range(Desks.SOME, 1, 1, 6, 6, (x, v) -> edited(x, 4, 0, 0, 0, 1, 1, v));
    due.is("0 by 0", Desks.NEW.desk().edit(0, 0, 0, 1, 0, 0), BAD);
  }

  @Says("not in lowest terms perhaps")
  static void editNotInLowestTerms() {
    CutListDesk x = new CutListDesk();
    x.edit(0, 0, 0, 9, 6, 4);
    x.edit(0, 0, 0, 9, 0, 6);
    due.is("p", x.info(0, 0, 3), 6);
    due.is("q", x.info(0, 0, 4), 4);
    due.is("p of 0 by 6", x.info(0, 1, 3), 0);
    due.is("q of 0 by 6", x.info(0, 1, 4), 6);
  }

  @Says("each of up to 8 EDITS, 0 on")
  static void editUpToEight() {
    for (int list = 0; list < 2; list++) {
      CutListDesk x = new CutListDesk();
      for (int n = 1; n <= 8; n++) due.is("edit", x.edit(list, n % 6, n, n, 1, 1), n);
      due.is("the ninth", x.edit(list, 0, 0, 1, 1, 1), FULL);
      due.is("edits", x.count(list), 8);
      due.is("the other list has room", x.edit(1 - list, 0, 0, 1, 1, 1), 1);
      due.is("one is undone", x.back(list), 7);
      due.is("there is room again", x.edit(list, 5, 9, 9, 1, 1), 8);
      due.is("for it", x.info(list, 7, 1), 9);
    }
  }

  @Says("An EDIT more, LONG many frames: how many. BAD; FULL.")
  static void editFull() {
    for (int list = 0; list < 2; list++) {
      int of = list;
      twins.leaves("the ninth", Desks.FULL, FULL, x -> x.edit(of, 0, 0, 1, 1, 1));
      twins.leaves("the ninth, as large as may be", Desks.FULL, FULL, x -> x.edit(of, 5, 199999, 500, 6, 6));
    }
  }

  @Says("Refusals, the first that fits, in the order told at each act: BAD -2")
  static void editBadAheadOfFull() {
    int[][] wrong = {{-1, 0, 0, 1, 1, 1}, {2, 0, 0, 1, 1, 1}, {0, -1, 0, 1, 1, 1}, {1, 6, 0, 1, 1, 1}, {0, 0, -1, 1, 1, 1},
        {1, 0, 200000, 1, 1, 1}, {0, 0, 0, 0, 1, 1}, {1, 0, 0, 501, 1, 1}, {0, 0, 0, 1, -1, 1}, {1, 0, 0, 1, 7, 1},
        {0, 0, 0, 1, 1, 0}, {1, 0, 0, 1, 1, 7}};
    for (int[] e : wrong) twins.bad("a full list", Desks.FULL, x -> x.edit(e[0], e[1], e[2], e[3], e[4], e[5]));
  }

  // ---- 3 back

  @Says("The last EDIT of a LIST is undone: how many are left. BAD; NOT: there is none.")
  static void backList() {
    twins.range(Desks.SOME, 0, 2, 1, 3, (x, v) -> x.back(v));
    twins.beside(Desks.NEW, 0, 1, BAD, (x, v) -> x.back(v));
  }

  @Says("NOT: there is none.")
  static void backOfNone() {
    for (int list = 0; list < 2; list++) {
      int of = list;
      twins.leaves("none", Desks.NEW, NOT, x -> x.back(of));
      CutListDesk x = Desks.FULL.desk();
      for (int left = 7; left >= 0; left--) due.is("back", x.back(list), left);
      due.is("none is left", x.back(list), NOT);
      due.is("the other list is as it was", x.count(1 - list), 8);
    }
  }

  // ---- 4 trim

  private static long trimmed(CutListDesk x, int list, int edit, int what, int v) {
    int was = x.trim(list, edit, what, v);
    return was < 0 ? was : x.info(list, edit, what + 1);
  }

  @Says("IN (what = 0), LONG (1), p (2), q (3) of an EDIT is v: what it was. BAD.")
  static void trimList() {
    twins.range(Desks.SOME, 0, 100, 1, 50, (x, v) -> x.trim(v, 0, 0, 7));
  }

  @Says("IN (what = 0), LONG (1), p (2), q (3) of an EDIT is v: what it was. BAD.")
  static void trimEdit() {
    twins.range(Desks.SOME, 0, 100, 2, 300, (x, v) -> x.trim(0, v, 0, 7));
    twins.range(Desks.SOME, 0, 50, 3, 199990, (x, v) -> x.trim(1, v, 0, 7));
    twins.range(Desks.FULL, 0, 1000, 7, 36000, (x, v) -> x.trim(1, v, 0, 7));
    twins.bad("a list without edits", Desks.NEW, x -> x.trim(0, 0, 0, 7));
    CutListDesk x = Desks.FULL.desk();
    x.back(0);
    due.is("one that was undone", x.trim(0, 7, 0, 7), BAD);
  }

  @Says("IN (what = 0), LONG (1), p (2), q (3) of an EDIT is v: what it was. BAD.")
  static void trimWhat() {
    twins.range(Desks.SOME, 0, 300, 3, 2, (x, v) -> x.trim(0, 2, v, 5));
  }

  @Says("from a frame IN (0 to 199999) on")
  static void trimIn() {
    twins.range(Desks.SOME, 0, 0, 199999, 199999, (x, v) -> trimmed(x, 0, 1, 0, v));
  }

  @Says("LONG so many frames of the cut (1 to 500)")
  static void trimLong() {
    twins.range(Desks.SOME, 1, 1, 500, 500, (x, v) -> trimmed(x, 0, 1, 1, v));
  }

  @Says("at a SPEED p by q (p 0 to 6, q 1 to 6")
  static void trimP() {
    twins.range(Desks.SOME, 0, 0, 6, 6, (x, v) -> trimmed(x, 0, 1, 2, v));
  }

  @Says("at a SPEED p by q (p 0 to 6, q 1 to 6")
  static void trimQ() {
    twins.range(Desks.SOME, 1, 1, 6, 6, (x, v) -> trimmed(x, 0, 1, 3, v));
  }

  // ---- 5 set

  private static long setTo(CutListDesk x, int what, int v) {
    int was = x.set(what, v);
    return was < 0 ? was : x.set(what, 0);
  }

  @Says("COUNTING (what = 0), HANDLE (1), NEAR (2): what it was. BAD.")
  static void setWhat() {
    twins.range(Desks.SOME, 0, 0, 2, 3, (x, v) -> x.set(v, 1));
    due.is("between them", Desks.SOME.desk().set(1, 1), 7);
  }

  @Says("COUNTING (0 to 2; 0 at first)")
  static void setCounting() {
    twins.range(Desks.SOME, 0, 0, 2, 2, (x, v) -> setTo(x, 0, v));
  }

  @Says("HANDLE (0 to 500; 10 at first)")
  static void setHandle() {
    twins.range(Desks.SOME, 0, 0, 500, 500, (x, v) -> setTo(x, 1, v));
  }

  @Says("NEAR frames (0 to 500; 0 at first)")
  static void setNear() {
    twins.range(Desks.SOME, 0, 0, 500, 500, (x, v) -> setTo(x, 2, v));
  }

  // ---- 6 reel

  @Says("LENGTH of a REEL: what it was. BAD.")
  static void reelReel() {
    twins.range(Desks.SOME, 0, 100000, 5, 200000, (x, v) -> x.reel(v, 7));
  }

  @Says("each with a LENGTH (1 to 200000 frames; 100000 at first): frames 0 on")
  static void reelFrames() {
    twins.range(Desks.SOME, 1, 1, 200000, 200000, (x, v) -> {
      int was = x.reel(1, v);
      return was < 0 ? was : x.reel(1, 7);
    });
    due.is("0 frames", Desks.NEW.desk().reel(0, 0), BAD);
  }

  @Says("each with a LENGTH (1 to 200000 frames; 100000 at first): frames 0 on")
  static void reelOfOneFrame() {
    CutListDesk x = new CutListDesk();
    x.reel(3, 1);
    x.edit(1, 3, 0, 2, 1, 1);
    due.is("frame 0 is there", x.shows(1, 0, 3), 0);
    due.is("frame 1 is not", x.shows(1, 1, 3), 1);
  }

  @Says("each with a LENGTH (1 to 200000 frames; 100000 at first): frames 0 on")
  static void reelOfAllFrames() {
    CutListDesk x = new CutListDesk();
    x.reel(3, 200000);
    x.edit(1, 3, 199999, 2, 1, 1);
    due.is("frame 199999 is there", x.shows(1, 0, 3), 0);
    due.is("frame 200000 never is", x.shows(1, 1, 3), 1);
  }

  // ---- 7 swap

  @Says("LIST 0 is what LIST 1 is, LIST 1 what LIST 0 was: how many EDITS both have.")
  static void swapOfNone() {
    twins.leaves("none", Desks.NEW, 0, x -> x.swap());
  }

  @Says("LIST 0 is what LIST 1 is, LIST 1 what LIST 0 was: how many EDITS both have.")
  static void swapOfFullAndNone() {
    CutListDesk x = new CutListDesk();
    for (int e = 1; e <= 8; e++) x.edit(0, 2, e, e, 1, 1);
    due.is("swap", x.swap(), 8);
    due.is("list 0", x.count(0), 0);
    due.is("list 1", x.count(1), 8);
    due.is("list 1 is full", x.edit(1, 0, 0, 1, 1, 1), FULL);
    due.is("list 0 has room", x.edit(0, 0, 0, 1, 1, 1), 1);
    due.is("swap again", x.swap(), 9);
    due.is("list 0 is full", x.edit(0, 0, 0, 1, 1, 1), FULL);
    for (int e = 0; e < 8; e++) due.is("edit " + e, x.info(0, e, 1), e + 1);
  }

  @Says("LIST 0 is what LIST 1 is, LIST 1 what LIST 0 was: how many EDITS both have.")
  static void swapOfFull() {
    due.is("swap", Desks.FULL.desk().swap(), 16);
    twins.leaves("twice", Desks.FULL, 16, x -> Math.min(x.swap(), x.swap()));
  }

  // ---- 8 read

  private static CutListDesk withRow(int form, int... items) {
    CutListDesk x = new CutListDesk();
    row(x, form, items);
    return x;
  }

  private static void row(CutListDesk x, int form, int... items) {
    x.sheet(3, form, items.length);
    for (int i = 0; i < items.length; i++) x.put(3, form, i, items[i]);
  }

  @Says("as many as are whole, as long as each may be: how many. BAD; NULL.")
  static void readList() {
    twins.range(Desks.SOME, 0, 0, 1, 0, (x, v) -> x.read(v, 0));
  }

  @Says("as many as are whole, as long as each may be: how many. BAD; NULL.")
  static void readSheet() {
    twins.beside(Desks.SOME, 0, 3, BAD, (x, v) -> x.read(0, v));
    for (int s = 0; s < 4; s++) {
      CutListDesk x = new CutListDesk();
      x.sheet(s, 0, 5);
      x.put(s, 0, 2, 1);
      x.put(s, 0, 4, 1);
      due.is("sheet " + s, x.read(1, s), 1);
    }
  }

  @Says("1 NULL: the SHEET is LOST")
  static void readNull() {
    for (int s = 0; s < 4; s++) {
      int of = s;
      twins.finds("at first", Desks.NEW, Desks.NULL, x -> x.read(0, of));
    }
    twins.finds("LOST", Desks.SOME, Desks.NULL, x -> x.read(1, 3));
    twins.finds("LOST, and the list is full", Desks.FULL, Desks.NULL, x -> x.read(1, 3));
    CutListDesk x = withRow(2, 0, 0, 1, 1, 1);
    x.lose(3);
    due.is("LOST again", x.read(0, 3), -11);
    due.is("none came", x.count(0), 0);
  }

  @Says("Refusals, the first that fits, in the order told at each act: BAD -2")
  static void readBadAheadOfNull() {
    twins.beside(Desks.NEW, 0, 1, BAD, (x, v) -> x.read(v, 3));
    twins.beside(Desks.NEW, 0, 3, BAD, (x, v) -> x.read(0, v));
  }

  @Says("EDITS from a SHEET: its items, five for each (as edit()), as many as are whole")
  static void readWhole() {
    int[] items = new int[60];
    for (int i = 0; i < 60; i++) items[i] = i / 5 % 5 + 1;
    for (int n = 0; n <= 60; n++) {
      for (int form = 0; form < 3; form++) {
        CutListDesk x = withRow(form, java.util.Arrays.copyOf(items, n));
        int whole = Math.min(8, n / 5);
        due.is(n + " items", x.read(0, 3), whole);
        due.is(n + " items: edits", x.count(0), whole);
        if (whole > 0) due.is(n + " items: the last of them", x.info(0, whole - 1, 4), (whole - 1) % 5 + 1);
        due.is(n + " items: no finding", x.count(8), 0);
        due.is(n + " items: they stay", x.lose(3), n);
      }
    }
  }

  @Says("SHEETS 0 .. 3 are LOST (at first) or a row of a FORM: 0 bytes, 1 shorts, 2 ints, of 0 to 60 items")
  static void readOfNoItems() {
    for (int form = 0; form < 3; form++) {
      CutListDesk x = Desks.SOME.desk();
      x.sheet(3, form, 0);
      due.is("no items", x.read(0, 3), 0);
      due.is("edits", x.count(0), 3);
      due.is("no finding", x.count(8), 0);
    }
  }

  @Says("as long as each may be")
  static void readUntilFull() {
    int[] items = new int[60];
    java.util.Arrays.fill(items, 2);
    for (int had = 0; had <= 8; had++) {
      CutListDesk x = withRow(0, items);
      for (int e = 0; e < had; e++) x.edit(1, 5, 9, 9, 1, 1);
      due.is("had " + had, x.read(1, 3), 8 - had);
      due.is("eight", x.count(1), 8);
      if (had > 0) due.is("those it had stay", x.info(1, had - 1, 0), 5);
      if (had < 8) due.is("the new ones come behind", x.info(1, had, 0), 2);
      due.is("none in the other list", x.count(0), 0);
      due.is("no finding", x.count(8), 0);
    }
  }

  @Says("as long as each may be")
  static void readLowestAndHighest() {
    CutListDesk x = withRow(2, 0, 0, 1, 0, 1, 5, 199999, 500, 6, 6);
    due.is("both may be", x.read(0, 3), 2);
    int[][] want = {{0, 0, 1, 0, 1}, {5, 199999, 500, 6, 6}};
    for (int e = 0; e < 2; e++) {
      for (int what = 0; what < 5; what++) due.is("info", x.info(0, e, what), want[e][what]);
    }
  }

  @Says("as long as each may be")
  static void readUntilOneMayNot() {
    int[][] wrong = {{-1, 0, 1, 1, 1}, {6, 0, 1, 1, 1}, {0, -1, 1, 1, 1}, {0, 200000, 1, 1, 1}, {0, 0, 0, 1, 1}, {0, 0, 501, 1, 1},
        {0, 0, 1, -1, 1}, {0, 0, 1, 7, 1}, {0, 0, 1, 1, 0}, {0, 0, 1, 1, 7}, {LEAST, 0, 1, 1, 1}, {0, MOST, 1, 1, 1},
        {0, 0, LEAST, 1, 1}, {0, 0, 1, MOST, 1}, {0, 0, 1, 1, LEAST}};
    for (int[] w : wrong) {
      CutListDesk x = withRow(2, 1, 1, 1, 1, 1, w[0], w[1], w[2], w[3], w[4], 2, 2, 2, 2, 2);
      due.is("up to the wrong one", x.read(0, 3), 1);
      due.is("one came", x.count(0), 1);
      row(x, 2, w[0], w[1], w[2], w[3], w[4], 2, 2, 2, 2, 2);
      due.is("the first is wrong", x.read(0, 3), 0);
      due.is("none came", x.count(0), 1);
      due.is("no finding", x.count(8), 0);
    }
  }

  @Says("becomes v (the lowest bits that it has)")
  static void readLowestBits() {
    CutListDesk x = withRow(0, 0, 255, 1, 1, 1);
    due.is("a byte of 255 is -1", x.read(0, 3), 0);
    row(x, 0, 0, 256 + 127, 1, 1, 1);
    due.is("a byte of 383 is 127", x.read(0, 3), 1);
    due.is("IN", x.info(0, 0, 1), 127);
    row(x, 1, 0, 65536 + 32767, 1, 1, 1);
    due.is("a short of 98303 is 32767", x.read(0, 3), 1);
    due.is("IN", x.info(0, 1, 1), 32767);
    row(x, 1, 0, 32768, 1, 1, 1);
    due.is("a short of 32768 is below 0", x.read(0, 3), 0);
  }
}
