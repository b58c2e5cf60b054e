import java.io.IOException;
import java.lang.reflect.InvocationTargetException;
import java.lang.reflect.Method;
import java.nio.file.Files;
import java.nio.file.Path;
import java.util.Arrays;
import java.util.Comparator;

/** Runs every test of a class that tells which sentence of the document it is of. */
final class Sentences {
  private static final Path DOCUMENT = Path.of("../shared/DOC.md");

  /** The document in one line, or null where it is not. */
  static String document() throws IOException {
    return Files.exists(DOCUMENT) ? plain(Files.readString(DOCUMENT)) : null;
  }

  static void run(Class<?> tests, Due due) throws IOException, IllegalAccessException {
    String document = document();
    Method[] all = tests.getDeclaredMethods();
    Arrays.sort(all, Comparator.comparing(Method::getName));
    for (Method test : all) {
      Says says = test.getAnnotation(Says.class);
      if (says == null) continue;
      due.begin(tests.getSimpleName() + "." + test.getName());
      if (document != null) standsIn(document, says.value(), due);
      runOne(test, due);
    }
    due.end();
  }

  private static void runOne(Method test, Due due) throws IllegalAccessException {
    int before = due.calls();
    try {
      test.invoke(null);
    } catch (InvocationTargetException e) {
      due.holds("nothing is thrown, but " + e.getCause(), false);
    }
    due.holds("it asks something", due.calls() > before);
  }

  private static void standsIn(String document, String sentence, Due due) {
    due.holds("the document says '" + sentence + "'", document.contains(plain(sentence)));
  }

  static String plain(String text) {
    return text.replaceAll("\\s+", " ").trim();
  }
}
