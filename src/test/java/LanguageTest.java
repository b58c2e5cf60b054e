import java.nio.file.Files;
import java.nio.file.Path;

/** Words that LANGUAGE.md leaves out do not stand in the program's code. Run from the project's folder. */
public final class LanguageTest {
  private static final String[] OUT = {"throw", "throws", "try", "catch", "synchronized", "assert", "package", "protected",
      "System\\.out", "Exact", "Random", "Thread", "Integer\\.M", "Long\\.M", "instanceof", "double", "float", "->", "::"};

  public static void main(String[] args) throws Exception {
    Due due = new Due();
    String code = Files.readString(Path.of("src/main/java/CutListDesk.java"));
    String bare = code.replaceAll("(?s)/\\*.*?\\*/", " ").replaceAll("//[^\n]*", " ");
    for (String word : OUT) {
      String edge = Character.isLetter(word.charAt(0)) && !word.equals("Exact") ? "\\b" : "";
      due.holds("'" + word + "' stands in the code", !bare.matches("(?s).*" + edge + word + ".*"));
    }
    int imports = bare.split("\\bimport\\b", -1).length - 1;
    due.is("imports", imports, 1);
    due.holds("Arrays alone is imported", bare.contains("import java.util.Arrays;"));
    due.end();
  }
}
