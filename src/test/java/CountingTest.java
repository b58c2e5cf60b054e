/** Promises 13 and 14: told, number. */
public final class CountingTest {
  private static final int LEAST = Integer.MIN_VALUE, MOST = Integer.MAX_VALUE;
  private static final int CALLS = 500;
  private static final Due due = new Due();
  private static CutListDesk desk;
  private static int left = 0;

  public static void main(String[] args) {
    for (int counting = 0; counting <= 2; counting++) countThrough(counting);
    refused();
    due.end();
  }

  /** An object is promised for 512 calls alone. */
  private static CutListDesk desk(int counting) {
    if (left == 0) {
      desk = new CutListDesk();
      desk.set(0, counting);
      left = CALLS;
    }
    left--;
    return desk;
  }

  /** Counts as a clock does, one number after another, and looks at stretches of it. */
  private static void countThrough(int counting) {
    left = 0;
    int rate = counting == 2 ? 25 : 30;
    int frame = 0;
    for (int h = 0; h < 100; h++) {
      for (int m = 0; m < 60; m++) {
        for (int s = 0; s < 60; s++) {
          for (int f = 0; f < rate; f++) {
            boolean isOut = counting == 0 && m % 10 != 0 && s == 0 && f < 2;
            if (isOut) {
              due.is("left out " + h + ":" + m + ":" + s + ":" + f, desk(counting).number(h, m, s, f), -3);
              continue;
            }
            if (frame < 120000 || frame > 9960000 || frame % 997 == 0 || m % 10 == 1 && s == 0 && f < 4) look(counting, frame, h, m, s, f);
            frame++;
          }
        }
      }
    }
  }

  private static void look(int counting, int frame, int h, int m, int s, int f) {
    due.is("number of " + frame, desk(counting).number(h, m, s, f), frame);
    if (frame > 9999999) return;
    int[] want = {h, m, s, f};
    for (int what = 0; what < 4; what++) due.is("told(" + frame + ", " + what + ")", desk(counting).told(frame, what), want[what]);
  }

  private static void refused() {
    CutListDesk x = new CutListDesk();
    int[][] badTold = {{-1, 0}, {10000000, 0}, {0, -1}, {0, 4}, {MOST, 0}, {LEAST, 0}, {0, MOST}, {0, LEAST}};
    for (int[] b : badTold) due.is("bad told", x.told(b[0], b[1]), -2);
    int[][] badNumber = {{-1, 0, 0, 0}, {100, 0, 0, 0}, {0, -1, 0, 0}, {0, 60, 0, 0}, {0, 0, -1, 0}, {0, 0, 60, 0}, {0, 0, 0, -1}, {0, 0, 0, 30},
        {MOST, 0, 0, 0}, {0, LEAST, 0, 0}, {0, 0, MOST, 0}, {0, 0, 0, MOST}, {100, 1, 0, 0}, {0, 61, 0, 1}, {0, 1, 0, -1}};
    for (int[] b : badNumber) due.is("bad number", x.number(b[0], b[1], b[2], b[3]), -2);
    x.set(0, 1);
    due.is("30 frames", x.number(0, 0, 0, 29), 29);
    due.is("no 30", x.number(0, 0, 0, 30), -2);
    x.set(0, 2);
    due.is("25 frames", x.number(0, 0, 0, 24), 24);
    due.is("no 25", x.number(0, 0, 0, 25), -2);
    due.is("hours above 99", x.told(9999999, 0), 111);
    due.is("none left out", x.number(0, 1, 0, 0), 1500);
  }
}
