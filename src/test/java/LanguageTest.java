import java.io.IOException;
import java.nio.file.Files;
import java.nio.file.Path;
import java.util.Set;
import java.util.regex.Matcher;
import java.util.regex.Pattern;

/** What of ../shared/LANGUAGE.md can be seen from the words of the program. */
public final class LanguageTest {
  private static final Set<String> NAMES = Set.of("FloatOrder", "Parade", "Best", "History", "PartReader", "Math",
      "IllegalStateException", "IllegalArgumentException", "IndexOutOfBoundsException");
  private static final Set<String> FORBIDDEN = Set.of("package", "import", "protected", "try", "catch", "finally",
      "synchronized", "assert", "instanceof", "var", "lambda", "native", "volatile", "transient", "float", "goto");

  public static void main(String[] args) throws IOException {
    String source = Files.readString(Path.of("src/main/java/FloatOrder.java"));
    for (int i = 0; i < source.length(); i++) {
      Check.holds("sign " + (int) source.charAt(i) + " at " + i, source.charAt(i) < 127);
    }
    String code = withoutTexts(source);
    Matcher words = Pattern.compile("[A-Za-z_][A-Za-z_0-9]*").matcher(code);
    while (words.find()) {
      String word = words.group();
      Check.holds("the word " + word, !FORBIDDEN.contains(word));
      boolean isClass = Character.isUpperCase(word.charAt(0)) && !word.equals(word.toUpperCase());
      Check.holds("the library's " + word, !isClass || NAMES.contains(word));
    }
    absent(code, "->", "a lambda");
    absent(code, "::", "a method reference");
    absent(code, "Exact", "a function that throws");
    absent(code, "static\\s*\\{", "a static initialiser block");
    absent(code, "Math\\.(?!max\\()", "an unlooked-for function of Math");
    absent(code, "[^=!<>]=\\s*null|\\bnull\\b", "null");
    objectsAreMadeOnce(code);
    methodsAreShort(code);
    Check.end("LanguageTest");
  }

  private static String withoutTexts(String source) {
    return source.replaceAll("(?s)/\\*.*?\\*/", "").replaceAll("//[^\n]*", "").replaceAll("\"[^\"\n]*\"", "\"\"")
        .replaceAll("'.'", "' '");
  }

  private static void absent(String code, String pattern, String what) {
    Matcher matcher = Pattern.compile(pattern).matcher(code);
    Check.holds(what + " stands in the program", !matcher.find());
  }

  /** The room of a run is small: after an object is made, its calls make none, but for the exceptions. */
  private static void objectsAreMadeOnce(String code) {
    for (String line : code.split("\n")) {
      if (line.contains("new ")) {
        boolean isField = line.matches("\\s*(private )?final .* = new .*;");
        boolean isSaved = line.strip().equals("saved[i] = new Parade();");
        Check.holds("made once: " + line.strip(), isField || isSaved || line.strip().startsWith("throw new "));
      }
    }
  }

  /** Lines are counted from a method's head on; a class inside ends soon after its last method. */
  private static void methodsAreShort(String code) {
    int lines = 0;
    for (String line : code.split("\n")) {
      boolean begins = line.matches("( {2}| {4})[a-zA-Z].*\\(.*") && !line.contains(";");
      lines = begins ? 1 : lines + 1;
      boolean ends = line.equals("  }") || line.equals("    }");
      Check.holds("a method of " + lines + " lines ends with " + line, !ends || lines <= 60);
    }
  }
}
