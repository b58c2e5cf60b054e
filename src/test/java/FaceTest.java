import java.io.IOException;
import java.lang.reflect.Constructor;
import java.lang.reflect.Field;
import java.lang.reflect.Method;
import java.lang.reflect.Modifier;
import java.nio.file.Files;
import java.nio.file.Path;
import java.util.Arrays;
import java.util.Set;
import java.util.TreeSet;
import java.util.regex.Matcher;
import java.util.regex.Pattern;

/** The document's face and no more of it (LANGUAGE.md, rule 1). Run from the project's folder. */
public final class FaceTest {
  private static final Path CLASS = Path.of("src/main/java/CutListDesk.java");
  private static final String[] FACE = {"int edit(6)", "int back(1)", "int trim(4)", "int set(2)", "int reel(2)", "int swap(0)",
      "int read(2)", "int info(3)", "int shows(3)", "int seen(4)", "int still(3)", "int told(2)", "int number(4)", "int pulls(1)",
      "int pull(3)", "int waste(1)", "int total(2)", "int compare(2)", "int gone(0)", "int anew(1)", "int saving(1)", "int sheet(3)",
      "int lose(1)", "int put(4)", "int get(3)", "int copy(5)", "int write(2)", "int count(1)", "long digest(0)"};
  private static final Due due = new Due();

  public static void main(String[] args) throws Exception {
    Sentences.run(FaceTest.class, due);
  }

  @Says("public final class CutListDesk {")
  static void theClass() {
    due.is("public and final", CutListDesk.class.getModifiers(), Modifier.PUBLIC | Modifier.FINAL);
    due.holds("no package", CutListDesk.class.getPackageName().isEmpty());
    due.holds("no class above it", CutListDesk.class.getSuperclass() == Object.class);
    due.is("interfaces", CutListDesk.class.getInterfaces().length, 0);
  }

  @Says("public CutListDesk();")
  static void constructors() {
    Constructor<?>[] all = CutListDesk.class.getDeclaredConstructors();
    due.is("constructors", all.length, 1);
    due.is("public", all[0].getModifiers(), Modifier.PUBLIC);
    due.is("takes", all[0].getParameterCount(), 0);
  }

  @Says("public static final int NONE = -1, BAD = -2, NOT = -3, FULL = -4;")
  static void constants() throws Exception {
    int[] values = {-1, -2, -3, -4};
    String[] names = {"NONE", "BAD", "NOT", "FULL"};
    for (int i = 0; i < 4; i++) due.is(names[i], CutListDesk.class.getField(names[i]).getInt(null), values[i]);
    int open = 0;
    for (Field f : CutListDesk.class.getDeclaredFields()) {
      if (!Modifier.isPrivate(f.getModifiers())) open++;
      if (Modifier.isStatic(f.getModifiers())) due.holds(f + " is final", Modifier.isFinal(f.getModifiers()));
    }
    due.is("open fields", open, 4);
  }

  @Says("public int edit(int list, int reel, int in, int many, int p, int q);")
  static void methods() {
    Set<String> open = new TreeSet<>();
    for (Method m : CutListDesk.class.getDeclaredMethods()) {
      if (Modifier.isPrivate(m.getModifiers()) || m.isSynthetic()) continue;
      open.add(m.getReturnType() + " " + m.getName() + "(" + m.getParameterCount() + ")");
      due.is(m + " is public and no more", m.getModifiers(), Modifier.PUBLIC);
      for (Class<?> p : m.getParameterTypes()) due.holds(m + " takes ints", p == int.class);
    }
    due.holds("the methods are those of the document: " + open, open.equals(new TreeSet<>(Arrays.asList(FACE))));
  }

  @Says("public int back(int list);")
  static void faceIsTheDocuments() throws IOException {
    String document = Sentences.document();
    due.is("calls of the face", FACE.length, 29);
    if (document == null) return;
    Matcher told = Pattern.compile("public (int|long) (\\w+)\\(([^)]*)\\);").matcher(document);
    int at = 0;
    while (told.find()) {
      int takes = told.group(3).isEmpty() ? 0 : told.group(3).split(",").length;
      String face = told.group(1) + " " + told.group(2) + "(" + takes + ")";
      due.holds("call " + at + " of the document is " + face, at < FACE.length && FACE[at].equals(face));
      due.holds("its promise tells the same", document.contains("`" + told.group().replace("public ", "").replace(";", "") + "`: "));
      at++;
    }
    due.is("calls of the document", at, FACE.length);
  }

  /** Rule 1: a name of the face is no name of anything inside; so no call can be mistaken for another. */
  @Says("## The public face")
  static void namesInside() {
    Set<String> taken = new TreeSet<>();
    for (String f : FACE) taken.add(f.substring(f.indexOf(' ') + 1, f.indexOf('(')));
    for (Method m : CutListDesk.class.getDeclaredMethods()) {
      if (Modifier.isPrivate(m.getModifiers())) due.holds(m + " has a name of its own", !taken.contains(m.getName()));
    }
    for (Class<?> inside : CutListDesk.class.getDeclaredClasses()) {
      due.holds(inside + " is static", Modifier.isStatic(inside.getModifiers()));
      due.holds(inside + " is not open", !Modifier.isPublic(inside.getModifiers()) && !Modifier.isProtected(inside.getModifiers()));
      for (Method m : inside.getDeclaredMethods()) due.holds(m + " has a name of its own", !taken.contains(m.getName()));
    }
  }

  // ---- what the interface says ahead of the calls

  private static void standUnder(String heading, String next, String... calls) throws IOException {
    String code = Files.readString(CLASS);
    int at = code.indexOf("// ---- " + heading + "\n");
    int end = next == null ? code.length() : code.indexOf("// ---- " + next + "\n");
    due.holds("'---- " + heading + "' stands in the class", at >= 0 && at < end);
    for (String call : calls) {
      int found = code.indexOf("public " + (call.equals("digest") ? "long " : "int ") + call + "(", at);
      due.holds(call + " stands under it, in order", found > at && found < end);
      at = Math.max(at, found);
    }
  }

  @Says("Ahead of the calls `edit`, `back`, `trim`, `set`, `reel`, `swap`, `read` the interface says: ---- the lists.")
  static void theLists() throws IOException {
    standUnder("the lists", "frames", "edit", "back", "trim", "set", "reel", "swap", "read");
  }

  @Says("Ahead of the calls `info`, `shows`, `seen`, `still` the interface says: ---- frames.")
  static void frames() throws IOException {
    standUnder("frames", "counting", "info", "shows", "seen", "still");
  }

  @Says("Ahead of the calls `told`, `number` the interface says: ---- counting.")
  static void counting() throws IOException {
    standUnder("counting", "pulls", "told", "number");
  }

  @Says("Ahead of the calls `pulls`, `pull`, `waste`, `total` the interface says: ---- pulls.")
  static void pulls() throws IOException {
    standUnder("pulls", "both", "pulls", "pull", "waste", "total");
  }

  @Says("Ahead of the calls `compare`, `gone`, `anew`, `saving` the interface says: ---- both.")
  static void both() throws IOException {
    standUnder("both", "sheets", "compare", "gone", "anew", "saving");
  }

  @Says("Ahead of the calls `sheet`, `lose`, `put`, `get`, `copy`, `write`, `count`, `digest` the interface says: ---- sheets.")
  static void sheets() throws IOException {
    standUnder("sheets", null, "sheet", "lose", "put", "get", "copy", "write", "count", "digest");
  }
}
