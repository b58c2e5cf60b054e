import java.lang.reflect.Array;
import java.lang.reflect.Field;
import java.lang.reflect.InvocationTargetException;
import java.lang.reflect.Method;
import java.lang.reflect.Modifier;
import java.util.Arrays;
import java.util.Comparator;
import java.util.IdentityHashMap;
import java.util.Map;

/** Any arguments in any state (LANGUAGE.md, rules 7 and 12): nothing is thrown, no answer is out of bounds, no object grows. */
public final class AnyCallTest {
  private static final int RUNS = 600, CALLS = 512, MORE = 50;
  private static final int[] FAR = {Integer.MIN_VALUE, Integer.MIN_VALUE + 1, -200001, -501, -62, -9, -3, -2, -1, 8, 9, 60, 61, 499, 500, 501,
      3999, 4000, 9999, 10000, 199999, 200000, 299999, 300000, 9999999, 10000000, Integer.MAX_VALUE - 1, Integer.MAX_VALUE};
  private static final Due due = new Due();
  private static long seed = 9;

  public static void main(String[] args) throws Exception {
    Method[] calls = CutListDesk.class.getDeclaredMethods();
    calls = Arrays.stream(calls).filter(m -> Modifier.isPublic(m.getModifiers())).toArray(Method[]::new);
    Arrays.sort(calls, Comparator.comparing(Method::getName));
    int[] room = roomOf(new CutListDesk());
    due.holds("an object is small: " + Arrays.toString(room), room[0] <= 60 && room[1] <= 700);
    for (int run = 0; run < RUNS; run++) {
      CutListDesk x = new CutListDesk();
      for (int call = 0; call < CALLS + MORE; call++) tryOne(x, calls[upTo(calls.length - 1)], call < CALLS);
      if (run % 20 == 0) due.holds("no object grows", Arrays.equals(roomOf(x), room));
    }
    due.end();
  }

  private static int upTo(int n) {
    seed = seed * 6364136223846793005L + 1442695040888963407L;
    return (int) ((seed >>> 33) % (n + 1));
  }

  /** Mostly one that may be for most calls, so that lists and sheets fill. */
  private static int any() {
    int kind = upTo(39);
    return kind == 0 ? FAR[upTo(FAR.length - 1)] : kind == 1 ? (int) (seed >>> 16) : kind < 6 ? upTo(60) : kind < 8 ? upTo(500) : upTo(2);
  }

  private static void tryOne(CutListDesk x, Method call, boolean isPromised) throws IllegalAccessException {
    Object[] given = new Object[call.getParameterCount()];
    for (int i = 0; i < given.length; i++) given[i] = any();
    String what = call.getName() + Arrays.toString(given);
    try {
      long answer = ((Number) call.invoke(x, given)).longValue();
      if (isPromised && !call.getName().equals("digest")) due.holds(what + " answered " + answer, isAnswer(call.getName(), answer));
    } catch (InvocationTargetException e) {
      due.holds(what + " threw " + e.getCause(), false);
    }
  }

  private static boolean isAnswer(String call, long answer) {
    if (call.equals("get")) return true;
    if (call.equals("compare")) return answer >= -3500 && answer <= 3500;
    return answer >= -15 && answer <= 10800000 && (answer >= -4 || answer <= -11);
  }

  // ---- the room

  /** How many objects and rows an object holds, itself too, and how many fields and elements they have. */
  private static int[] roomOf(Object whole) throws IllegalAccessException {
    Map<Object, Boolean> all = new IdentityHashMap<>();
    int[] room = new int[2];
    add(whole, all, room);
    return room;
  }

  private static void add(Object each, Map<Object, Boolean> all, int[] room) throws IllegalAccessException {
    if (each == null || all.put(each, true) != null) return;
    room[0]++;
    if (each.getClass().isArray()) {
      room[1] += Array.getLength(each);
      for (int i = 0; each instanceof Object[] row && i < row.length; i++) add(row[i], all, room);
      return;
    }
    for (Field f : each.getClass().getDeclaredFields()) {
      if (Modifier.isStatic(f.getModifiers())) continue;
      room[1]++;
      f.setAccessible(true);
      if (!f.getType().isPrimitive()) add(f.get(each), all, room);
    }
  }
}
