import java.io.IOException;
import java.lang.reflect.Method;
import java.nio.file.Files;
import java.nio.file.Path;
import java.util.ArrayList;
import java.util.List;
import java.util.regex.Matcher;
import java.util.regex.Pattern;

/** The class has what ../shared/DOC.md itself says of the public face, of the groups of calls and of each promise. */
public final class DocumentTest {
  private static final int PROMISES = 27;

  public static void main(String[] args) throws IOException {
    String document = Files.readString(Path.of("../shared/DOC.md"));
    String source = Files.readString(Path.of("src/main/java/FloatOrder.java"));
    String tests = Files.readString(Path.of("src/test/java/PromiseTest.java"));
    List<String> face = face(document);
    eachLineOfTheFace(face, source);
    eachGroupOfCalls(document, source);
    eachPromise(document, face, tests);
    Check.end("DocumentTest");
  }

  private static String oneLine(String text) {
    return text.replaceAll("\\s+", " ");
  }

  /** The lines of the public face, without the class's own. */
  private static List<String> face(String document) {
    int begin = document.indexOf("```java", document.indexOf("## The public face"));
    String block = document.substring(begin, document.indexOf("```", begin + 3));
    List<String> lines = new ArrayList<>();
    for (String line : block.split("\n")) {
      if (line.startsWith("    public ")) {
        lines.add(line.strip());
      }
    }
    Check.same("lines of the face", lines.size(), PROMISES + 1);
    return lines;
  }

  /** In the words and in the order of the document, and nothing else is public. */
  private static void eachLineOfTheFace(List<String> face, String source) {
    String code = oneLine(source);
    int behind = code.indexOf("public final class FloatOrder {");
    Check.holds("the class's own line", behind >= 0);
    for (String line : face) {
      String due = line.contains(" = ") ? line : line.replace(";", " {");
      int found = code.indexOf(due, behind);
      Check.holds("not there, or not in its order: " + due, found > behind);
      behind = Math.max(behind, found);
    }
    Matcher publics = Pattern.compile("\\bpublic\\b").matcher(code.replaceAll("/\\*.*?\\*/", ""));
    int number = 0;
    while (publics.find()) {
      number++;
    }
    Check.same("what is public, with the class", number, face.size() + 1);
  }

  /** "Ahead of the calls ... the interface says: ---- ...": so does the class. */
  private static void eachGroupOfCalls(String document, String source) {
    Matcher groups = Pattern.compile("Ahead of the calls (.*) the interface says: (---- .*)\\.\n").matcher(document);
    int number = 0;
    int calls = 0;
    while (groups.find()) {
      number++;
      int begin = source.indexOf("// " + groups.group(2) + "\n");
      Check.holds("the group " + groups.group(2), begin >= 0);
      String group = source.substring(Math.max(0, begin), source.indexOf("// ----", begin + 3));
      String due = groups.group(1).replaceAll("[`,]", "");
      List<String> names = new ArrayList<>();
      Matcher methods = Pattern.compile("\n  public \\w+ (\\w+)\\(").matcher(group);
      while (methods.find()) {
        names.add(methods.group(1));
      }
      calls += names.size();
      Check.holds(groups.group(2) + " has " + names + ", due is " + due, String.join(" ", names).equals(due));
    }
    Check.same("groups", number, 5);
    Check.same("calls in groups", calls, PROMISES - 1);
  }

  /** Its line is one of the face, the class declares the exceptions that it tells, and a test is named as its call. */
  private static void eachPromise(String document, List<String> face, String tests) {
    String[] parts = document.substring(0, document.indexOf("## Not promised")).split("\n## Promise ");
    Check.same("promises", parts.length - 1, PROMISES);
    for (int number = 1; number < parts.length && number <= PROMISES; number++) {
      String part = parts[number];
      String name = part.substring(part.indexOf(": ") + 2, part.indexOf('\n'));
      Check.holds("the number of promise " + name, part.startsWith(number + ": "));
      int begin = part.indexOf('`') + 1;
      String line = "public " + part.substring(begin, part.indexOf('`', begin)) + ";";
      Check.holds("no line of the face: " + line, face.get(number).equals(line));
      String test = number == 1 ? "newObject" : name;
      Check.holds("no test of " + name, tests.contains("\n    " + test + "();") && tests.contains(" " + test + "() {"));
      if (number > 1) {
        exceptions(name, part);
      }
    }
  }

  private static void exceptions(String name, String promise) {
    List<String> due = new ArrayList<>();
    Matcher lines = Pattern.compile("\nThrows `(\\w+)` if ").matcher(promise);
    while (lines.find()) {
      due.add(lines.group(1));
    }
    for (Method method : FloatOrder.class.getDeclaredMethods()) {
      if (method.getName().equals(name)) {
        List<String> declared = new ArrayList<>();
        for (Class<?> exception : method.getExceptionTypes()) {
          declared.add(exception.getSimpleName());
        }
        Check.holds(name + " declares " + declared + ", due is " + due, declared.equals(due));
        return;
      }
    }
    Check.fail("no method " + name);
  }
}
