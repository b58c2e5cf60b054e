import java.io.IOException;
import java.lang.reflect.InvocationTargetException;
import java.lang.reflect.Method;
import java.nio.file.Files;
import java.nio.file.Path;
import java.util.Arrays;
import java.util.Comparator;

/** Runs every test of a class that tells which sentence of the document it is of. */
final class Sentences {
  private static final Path DOCUMENT = Path.of("../shared/DOC.md");

  static void run(Class<?> tests, Due due) throws IOException, IllegalAccessException {
    String document = Files.exists(DOCUMENT) ? plain(Files.readString(DOCUMENT)) : null;
    Method[] all = tests.getDeclaredMethods();
    Arrays.sort(all, Comparator.comparing(Method::getName));
    for (Method test : all) {
      Says says = test.getAnnotation(Says.class);
      if (says == null) continue;
      due.begin(tests.getSimpleName() + "." + test.getName());
      if (document != null) standsIn(document, says.value(), due);
      runOne(test, due);
    }
    due.end();
  }

  private static void runOne(Method test, Due due) throws IllegalAccessException {
    int before = due.calls();
    try {
      test.invoke(null);
    } catch (InvocationTargetException e) {
      due.holds("nothing is thrown, but " + e.getCause(), false);
    }
    due.holds("it asks something", due.calls() > before);
  }

  private static void standsIn(String document, String sentence, Due due) {
    for (String part : sentence.split("\\.\\. ")) due.holds("the document says '" + part + "'", document.contains(plain(part)));
  }

  private static String plain(String text) {
    return text.replaceAll("\\s+", " ").trim();
  }
}
