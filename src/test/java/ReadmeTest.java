import java.io.IOException;
import java.lang.reflect.Method;
import java.nio.file.Files;
import java.nio.file.Path;
import java.util.TreeSet;
import java.util.regex.Matcher;
import java.util.regex.Pattern;
import java.util.stream.Stream;

/** What README.md says of use, of the classes inside and of the tests is what there is. */
public final class ReadmeTest {
  private static final Pattern TEXT = Pattern.compile("for \\(char c : \"(.*)\"\\.toCharArray\\(\\)\\) \\{");
  private static final Pattern CALL = Pattern.compile("parade\\.(\\w+)\\((.*)\\); *// (\\d+).*");

  public static void main(String[] args) throws IOException, ReflectiveOperationException {
    String page = Files.readString(Path.of("README.md"));
    theExample(page);
    eachCall(page);
    theClassesInside(page);
    theTests(page);
    Check.end("ReadmeTest");
  }

  private static String part(String page, String heading) {
    int begin = page.indexOf("\n## " + heading + "\n");
    Check.holds("the part " + heading, begin >= 0);
    int end = page.indexOf("\n## ", begin + 1);
    return page.substring(Math.max(0, begin), end < 0 ? page.length() : end);
  }

  /** Each line of the example is done, and answers the number with which the comment behind it begins. */
  private static void theExample(String page) throws ReflectiveOperationException {
    int begin = page.indexOf("```java\n") + 8;
    FloatOrder parade = new FloatOrder();
    int calls = 0;
    for (String line : page.substring(begin, page.indexOf("```", begin)).split("\n")) {
      Matcher text = TEXT.matcher(line);
      Matcher call = CALL.matcher(line);
      if (text.matches()) {
        for (char sign : text.group(1).toCharArray()) {
          parade.append(sign);
        }
      } else if (call.matches()) {
        calls++;
        long due = Long.parseLong(call.group(3));
        Check.same(line, answer(parade, call.group(1), call.group(2)), due);
      } else {
        Check.holds("what the test can't read: " + line, line.equals("FloatOrder parade = new FloatOrder();")
            || line.equals("  parade.append(c);") || line.equals("}"));
      }
    }
    Check.same("calls of the example", calls, 10);
  }

  private static int answer(FloatOrder parade, String name, String words) throws ReflectiveOperationException {
    String[] given = words.isEmpty() ? new String[0] : words.split(", ");
    Object[] arguments = new Object[given.length];
    Class<?>[] types = new Class<?>[given.length];
    for (int i = 0; i < given.length; i++) {
      arguments[i] = given[i].equals("FloatOrder.NONE") ? FloatOrder.NONE : Integer.parseInt(given[i]);
      types[i] = int.class;
    }
    return (Integer) FloatOrder.class.getMethod(name, types).invoke(parade, arguments);
  }

  /** Each call of the face stands on the page, with the names that the document gives to its parameters. */
  private static void eachCall(String page) throws IOException {
    String use = part(page, "Use");
    String document = Files.readString(Path.of("../shared/DOC.md"));
    int calls = 0;
    for (Method method : FloatOrder.class.getDeclaredMethods()) {
      Matcher line = Pattern.compile("    public \\w+ " + method.getName() + "\\((.*?)\\)").matcher(document);
      if (line.find()) {
        calls++;
        String call = "`" + method.getName() + "(" + line.group(1).replaceAll("(int|boolean) ", "") + ")`";
        Check.holds("the call " + call, use.contains(call));
      }
    }
    Check.same("calls", calls, 26);
  }

  private static TreeSet<String> named(String part) {
    TreeSet<String> names = new TreeSet<>();
    Matcher matcher = Pattern.compile("`([A-Z]\\w+)`").matcher(part);
    while (matcher.find()) {
      names.add(matcher.group(1));
    }
    return names;
  }

  private static void theClassesInside(String page) {
    TreeSet<String> due = new TreeSet<>();
    due.add("FloatOrder");
    for (Class<?> inside : FloatOrder.class.getDeclaredClasses()) {
      due.add(inside.getSimpleName());
    }
    TreeSet<String> named = named(part(page, "How it is made"));
    Check.holds("classes " + named + ", due are " + due, named.equals(due));
  }

  /** Each file of the tests is told, none that is not there, and .ci/run is what it is said to be. */
  private static void theTests(String page) throws IOException {
    TreeSet<String> due = new TreeSet<>();
    try (Stream<Path> files = Files.list(Path.of("src/test/java"))) {
      files.forEach(file -> due.add(file.getFileName().toString().replace(".java", "")));
    }
    String tests = part(page, "Tests");
    TreeSet<String> named = named(tests);
    Check.holds("tests " + named + ", due are " + due, named.equals(due));
    Check.holds(".ci/run is executable", Files.isExecutable(Path.of(".ci/run")));
    Check.holds("the page tells .ci/run", tests.contains("`.ci/run`"));
    String script = Files.readString(Path.of(".ci/run"));
    Check.holds(".ci/run runs each test of the project", script.contains("for file in src/test/java/*Test.java"));
    Check.holds(".ci/run runs each test under ../shared/tests", script.contains("for file in ../shared/tests/*.java"));
    Check.holds("one test alone", Files.exists(Path.of("build/own/PromiseTest.class")));
  }
}
