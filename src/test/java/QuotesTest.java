import java.io.File;
import java.lang.reflect.Method;
import java.util.BitSet;
import java.util.regex.Matcher;
import java.util.regex.Pattern;

/** Each sentence of the document, from its first line to promise 30, is quoted by a test that would find it broken. */
public final class QuotesTest {
  /** Headings and signs between sentences, the calls that FaceTest compares, and what the document leaves free. */
  private static final String[] NO_SENTENCE = {"^# CutListDesk ## What it is Cut list conformed: ", "======== \\d ", "```text ",
      "## Terms ", "## The public face ```java .*? ``` ", "## Promise \\d+: [A-Za-z ]+ `[^`]*`: ", "## Not promised .*$"};
  private static final Due due = new Due();

  public static void main(String[] args) throws Exception {
    String document = Sentences.document();
    if (document != null) eachIsQuoted(document);
    due.end();
  }

  private static void eachIsQuoted(String document) throws Exception {
    BitSet quoted = new BitSet();
    for (String out : NO_SENTENCE) {
      Matcher at = Pattern.compile(out).matcher(document);
      due.holds("'" + out + "' stands in the document", at.find());
      for (at.reset(); at.find(); ) quoted.set(at.start(), at.end());
    }
    for (File file : new File("src/test/java").listFiles()) {
      if (file.getName().endsWith("Test.java")) quoteAll(document, Class.forName(file.getName().replace(".java", "")), quoted);
    }
    for (int from = quoted.nextClearBit(0); from < document.length(); ) {
      int to = quoted.nextSetBit(from) < 0 ? document.length() : quoted.nextSetBit(from);
      String left = document.substring(from, to);
      due.holds("'" + left + "' is quoted by a test", !left.matches(".*[A-Za-z0-9].*"));
      from = quoted.nextClearBit(to);
    }
  }

  private static void quoteAll(String document, Class<?> tests, BitSet quoted) {
    for (Method test : tests.getDeclaredMethods()) {
      Says says = test.getAnnotation(Says.class);
      if (says == null) continue;
      String sentence = Sentences.plain(says.value());
      int at = document.indexOf(sentence);
      if (at >= 0 && at == document.lastIndexOf(sentence)) quoted.set(at, at + sentence.length());
    }
  }
}
