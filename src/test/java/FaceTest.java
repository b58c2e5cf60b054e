import java.lang.reflect.Field;
import java.lang.reflect.Method;
import java.lang.reflect.Modifier;
import java.util.Arrays;
import java.util.Set;
import java.util.TreeSet;

/** The document's face and no more of it (LANGUAGE.md, rule 1). */
public final class FaceTest {
  private static final Due due = new Due();
  private static final String[] FACE = {"edit 6", "back 1", "trim 4", "set 2", "reel 2", "swap 0", "read 2", "info 3", "shows 3",
      "seen 4", "still 3", "told 2", "number 4", "pulls 1", "pull 3", "waste 1", "total 2", "compare 2", "gone 0", "anew 1",
      "saving 1", "sheet 3", "lose 1", "put 4", "get 3", "copy 5", "write 2", "count 1", "digest 0"};

  public static void main(String[] args) throws Exception {
    due.holds("final", Modifier.isFinal(CutListDesk.class.getModifiers()));
    due.is("constructors", CutListDesk.class.getDeclaredConstructors().length, 1);
    methods();
    constants();
    namesInside();
    due.end();
  }

  private static void methods() {
    Set<String> open = new TreeSet<>();
    for (Method m : CutListDesk.class.getDeclaredMethods()) {
      if (Modifier.isPrivate(m.getModifiers()) || m.isSynthetic()) continue;
      open.add(m.getName() + " " + m.getParameterCount());
      due.holds(m + " is public", Modifier.isPublic(m.getModifiers()) && !Modifier.isStatic(m.getModifiers()));
      due.holds(m + " answers", m.getReturnType() == (m.getName().equals("digest") ? long.class : int.class));
      for (Class<?> p : m.getParameterTypes()) due.holds(m + " takes ints", p == int.class);
    }
    due.holds("the methods are those of the document: " + open, open.equals(new TreeSet<>(Arrays.asList(FACE))));
  }

  private static void constants() throws Exception {
    int[] values = {-1, -2, -3, -4};
    String[] names = {"NONE", "BAD", "NOT", "FULL"};
    for (int i = 0; i < 4; i++) due.is(names[i], CutListDesk.class.getField(names[i]).getInt(null), values[i]);
    int open = 0;
    for (Field f : CutListDesk.class.getDeclaredFields()) {
      if (!Modifier.isPrivate(f.getModifiers())) open++;
      if (Modifier.isStatic(f.getModifiers())) due.holds(f + " is final", Modifier.isFinal(f.getModifiers()));
    }
    due.is("open fields", open, 4);
  }

  private static void namesInside() {
    Set<String> taken = new TreeSet<>();
    for (String f : FACE) taken.add(f.split(" ")[0]);
    for (Class<?> inside : CutListDesk.class.getDeclaredClasses()) {
      due.holds(inside + " is static", Modifier.isStatic(inside.getModifiers()));
      for (Method m : inside.getDeclaredMethods()) due.holds(m + " has a name of its own", !taken.contains(m.getName()));
    }
  }
}
