import java.lang.reflect.Field;
import java.lang.reflect.Method;
import java.lang.reflect.Modifier;
import java.nio.file.Files;
import java.nio.file.Path;
import java.util.ArrayList;
import java.util.Collections;
import java.util.HashSet;
import java.util.List;
import java.util.Set;
import java.util.regex.Matcher;
import java.util.regex.Pattern;

/** The public face, as the document gives it, and nothing beside it. */
final class FaceTest {
  private static final Check check = new Check("FaceTest");

  public static void main(String[] args) throws Exception {
    methodsAreTheDocuments();
    nothingElseIsSeen();
    noPrivateNameIsPublic();
    check.end();
  }

  private static void methodsAreTheDocuments() throws Exception {
    List<String> due = new ArrayList<>();
    Pattern line = Pattern.compile("    public (\\w+) (\\w+)\\((.*?)\\)(?: throws (.*))?;");
    for (String text : Files.readAllLines(Path.of("../shared/DOC.md"))) {
      Matcher found = line.matcher(text);
      if (found.matches()) {
        String types = found.group(3).replaceAll(" \\w+(,|$)", "$1");
        due.add(face(found.group(1), found.group(2), types, found.group(4)));
      }
    }
    List<String> got = new ArrayList<>();
    for (Method method : CoatLine.class.getDeclaredMethods()) {
      if (Modifier.isPublic(method.getModifiers())) {
        String types = names(method.getParameterTypes());
        String thrown = names(method.getExceptionTypes());
        got.add(face(method.getReturnType().getSimpleName(), method.getName(), types, thrown));
      }
    }
    Collections.sort(due);
    Collections.sort(got);
    check.is("methods of the document", due.size(), 54);
    check.yes("the same methods: " + got + " " + due, got.equals(due));
  }

  private static String face(String type, String name, String types, String thrown) {
    return type + " " + name + "(" + types + ")" + (thrown == null ? "" : thrown);
  }

  private static String names(Class<?>[] types) {
    StringBuilder text = new StringBuilder();
    for (Class<?> type : types) {
      text.append(text.length() == 0 ? "" : ", ").append(type.getSimpleName());
    }
    return text.toString();
  }

  private static void nothingElseIsSeen() {
    check.yes("final", Modifier.isFinal(CoatLine.class.getModifiers()));
    check.is("constructors", CoatLine.class.getDeclaredConstructors().length, 1);
    for (Field field : CoatLine.class.getDeclaredFields()) {
      check.yes(field + " is private", Modifier.isPrivate(field.getModifiers()));
    }
    for (Method method : CoatLine.class.getDeclaredMethods()) {
      int modifiers = method.getModifiers();
      boolean isSeen = !Modifier.isPrivate(modifiers) && !Modifier.isPublic(modifiers);
      check.no(method + " is seen", isSeen && !method.isSynthetic());
    }
    for (Class<?> inside : CoatLine.class.getDeclaredClasses()) {
      check.yes(inside + " is static", Modifier.isStatic(inside.getModifiers()));
      check.no(inside + " is public", Modifier.isPublic(inside.getModifiers()));
    }
  }

  private static void noPrivateNameIsPublic() {
    Set<String> seen = new HashSet<>();
    for (Method method : CoatLine.class.getMethods()) {
      seen.add(method.getName());
    }
    List<Method> hidden = new ArrayList<>(List.of(CoatLine.class.getDeclaredMethods()));
    for (Class<?> inside : CoatLine.class.getDeclaredClasses()) {
      hidden.addAll(List.of(inside.getDeclaredMethods()));
    }
    for (Method method : hidden) {
      if (!Modifier.isPublic(method.getModifiers())) {
        check.no(method + " has a name of the face", seen.contains(method.getName()));
      }
    }
  }
}
