import java.util.List;

/** Whether a call changes anything: it is made on one of two objects that came about alike, and both are looked at. */
final class Twins {
  static final int LEAST = Integer.MIN_VALUE, MOST = Integer.MAX_VALUE;
  static final int NONE = -1, BAD = -2, NOT = -3, FULL = -4;

  private final Due due;

  Twins(Due due) {
    this.due = due;
  }

  interface Call {
    long on(CutListDesk x);
  }

  interface CallWith {
    long on(CutListDesk x, int v);
  }

  /** The call has this answer and changes nothing, the latest FINDING neither. */
  void leaves(String what, Desks from, long answer, Call call) {
    for (int latest : new int[] {Desks.NO_FINDING, Desks.SIZE}) changesNoMore(what, from, latest, answer, latest, call);
  }

  /** The call has this answer and changes nothing but count() 8. */
  void finds(String what, Desks from, int number, long answer, Call call) {
    int other = number == Desks.SIZE ? Desks.NULL : Desks.SIZE;
    for (int latest : new int[] {Desks.NO_FINDING, other}) changesNoMore(what, from, latest, answer, number, call);
  }

  /** As finds(), where the answer is -10 less the number. */
  void finds(String what, Desks from, int number, Call call) {
    finds(what, from, number, -10 - number, call);
  }

  void bad(String what, Desks from, Call call) {
    leaves(what, from, BAD, call);
  }

  private void changesNoMore(String what, Desks from, int before, long answer, int after, Call call) {
    CutListDesk x = from.desk(before);
    CutListDesk untouched = from.desk(before);
    due.is(what, call.on(x), answer);
    due.is(what + ": count(8)", x.count(8), after);
    due.holds(what + ": nothing else is changed", sameLook(x, untouched));
  }

  private static boolean sameLook(CutListDesk x, CutListDesk y) {
    List<Long> of = Desks.look(x);
    return of.equals(Desks.look(y));
  }

  /** The last numbers that are allowed are answered so, at both ends; the first that are not, and the farthest, are BAD. */
  void range(Desks from, int low, long atLow, int high, long atHigh, CallWith call) {
    due.is("at " + low, call.on(from.desk(), low), atLow);
    due.is("at " + high, call.on(from.desk(), high), atHigh);
    beside(from, low, high, BAD, call);
  }

  void beside(Desks from, int low, int high, long answer, CallWith call) {
    for (int v : new int[] {low - 1, high + 1, LEAST, MOST}) leaves("at " + v, from, answer, x -> call.on(x, v));
  }
}
