/** Counts the calls whose answers are not the ones that are due, for the tests beside it. */
final class Due {
  private int wrong = 0;
  private int calls = 0;
  private String about = "";

  /** What the answers from here on are about; told with each that is wrong. */
  void begin(String what) {
    about = what + ": ";
  }

  int calls() {
    return calls;
  }

  void is(String call, long got, long want) {
    calls++;
    if (got != want) {
      wrong++;
      System.out.println(about + call + " answered " + got + ", due is " + want);
    }
  }

  void holds(String what, boolean so) {
    is(what, so ? 1 : 0, 1);
  }

  void end() {
    System.out.println(calls + " answers, " + wrong + " of them not as due");
    if (wrong != 0) System.exit(1);
  }
}
