import java.io.IOException;
import java.nio.file.Files;
import java.nio.file.Path;
import java.util.List;
import java.util.regex.Matcher;
import java.util.regex.Pattern;

/** The class's file keeps to rules of LANGUAGE.md that its words show; -Dsource= tells where it is. */
public final class RulesTest {
  private static final Check CHECK = new Check();
  /** What no line may hold, by rule 2, 4, 6, 8, 10, 13 (texts and comments are taken away before). */
  private static final List<String> BARRED = List.of("->", "::", "try", "catch", "finally", "synchronized", "assert",
      "instanceof", "volatile", "transient", "native", "record", "package", "Exact", "Object", "Thread", "System",
      "Random", "hashCode", "toCharArray", "valueOf", "format", "NaN", "double", "float", "import static", "@");
  private static final Pattern NEW = Pattern.compile("\\bnew (\\w+)");
  private static final Pattern METHOD = Pattern.compile("^ {2,4}(?! ).*\\b(\\w+)\\((.*)\\).*\\{$");
  private static final int LINES_MOST = 60;
  private static final int PARAMETERS_MOST = 7;

  public static void main(String[] args) throws IOException {
    String source = System.getProperty("source", "src/main/java/Cachefront.java");
    List<String> lines = Files.readAllLines(Path.of(source));
    words(lines);
    methods(lines);
    CHECK.end();
  }

  private static String bare(String line) {
    String code = line.replaceAll("'(\\\\.|[^'])'", "''").replaceAll("\"[^\"]*\"", "\"\"");
    String trimmed = code.trim();
    return trimmed.startsWith("//") || trimmed.startsWith("*") || trimmed.startsWith("/*") ? "" : code;
  }

  private static void words(List<String> lines) {
    for (int i = 0; i < lines.size(); i++) {
      String code = bare(lines.get(i));
      CHECK.part("line " + (i + 1));
      for (String word : BARRED) {
        boolean isWord = Character.isLetter(word.charAt(0));
        boolean isThere = isWord ? Pattern.compile("\\b" + word).matcher(code).find() : code.contains(word);
        CHECK.same(word, isThere, false);
      }
      CHECK.same("an import", code.startsWith("import ") && !code.equals("import java.util.ArrayList;"), false);
      CHECK.same("texts joined by +", code.contains("\" +") || code.contains("+ \""), false);
      CHECK.same("a static initialiser", code.trim().equals("static {"), false);
      boolean isStatic = code.contains(" static ") && code.contains(";") && !code.contains("(");
      CHECK.same("a static field that is not final", isStatic && !code.contains(" final "), false);
      Matcher made = NEW.matcher(code);
      boolean isThrown = made.find() && made.group(1).endsWith("Exception");
      CHECK.same("an exception that is not thrown as it is made", isThrown && !code.contains("throw new "), false);
      CHECK.same("throw without new", code.contains("throw ") && !code.contains("throw new "), false);
    }
  }

  /** By the layout of this file: a method begins and ends at the depth of a member. */
  private static void methods(List<String> lines) {
    for (int i = 0; i < lines.size(); i++) {
      Matcher head = METHOD.matcher(bare(lines.get(i)));
      if (!head.matches() || lines.get(i).matches(".*\\b(if|for|while|switch|else|do)\\b.*")) {
        continue;
      }
      CHECK.part(head.group(1));
      String parameters = head.group(2).trim();
      int many = parameters.isEmpty() ? 0 : parameters.split(",").length;
      CHECK.same("seven parameters at most", many <= PARAMETERS_MOST, true);
      String end = lines.get(i).replaceAll("\\S.*", "") + "}";
      int last = i;
      boolean isConstructor = lines.get(i).matches(" *(private |public )?[A-Z]\\w*\\(.*");
      while (last < lines.size() - 1 && !lines.get(last).equals(end)) {
        last++;
        CHECK.same("a throw in a constructor", isConstructor && lines.get(last).contains("throw "), false);
      }
      CHECK.same("some sixty lines at most", last - i <= LINES_MOST, true);
    }
  }
}
