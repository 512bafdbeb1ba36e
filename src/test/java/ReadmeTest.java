import java.nio.file.Files;
import java.nio.file.Path;
import java.util.HashSet;
import java.util.Set;
import java.util.regex.Matcher;
import java.util.regex.Pattern;

/** The README: its calls answer as it says, it has each call, and each test has its line. */
final class ReadmeTest {
  private static final Check check = new Check("ReadmeTest");

  public static void main(String[] args) throws Exception {
    String readme = Files.readString(Path.of("README.md"));
    callsAnswerAsItSays(readme);
    eachCallIsThere(readme);
    eachTestIsThere(readme);
    check.end();
  }

  private static void callsAnswerAsItSays(String readme) {
    int from = readme.indexOf("```java");
    int to = readme.indexOf("```\n", from);
    check.yes("it has an example", from >= 0 && to > from);
    Pattern line = Pattern.compile("works\\.(\\w+)\\((.*?)\\); *// ('.'|throws \\w+|[-\\w.]+).*");
    CoatLine works = new CoatLine();
    for (String text : readme.substring(from, to).split("\n")) {
      if (text.startsWith("works.")) {
        Matcher call = line.matcher(text);
        check.yes(text + " tells its answer", call.matches());
        String answer = Told.answer(works, call.group(1), call.group(2));
        check.yes(text + " answered " + answer, answer.equals(call.group(3)));
      }
    }
  }

  private static void eachCallIsThere(String readme) {
    Set<String> told = new HashSet<>();
    Matcher name = Pattern.compile("`(\\w+)`").matcher(readme);
    while (name.find()) {
      told.add(name.group(1));
    }
    for (java.lang.reflect.Method method : CoatLine.class.getDeclaredMethods()) {
      if (java.lang.reflect.Modifier.isPublic(method.getModifiers())) {
        check.yes(method.getName() + " is there", told.contains(method.getName()));
      }
    }
  }

  private static void eachTestIsThere(String readme) throws Exception {
    try (var files = Files.list(Path.of("src/test/java"))) {
      for (Path file : (Iterable<Path>) files::iterator) {
        String name = file.getFileName().toString().replace(".java", "");
        check.yes(name + " is there", readme.contains("`" + name + "`"));
      }
    }
  }
}
