import java.lang.reflect.InvocationTargetException;
import java.lang.reflect.Method;
import java.util.Arrays;

/** A call that a text tells, such as {@code lot('p', 100, 99)}, made on an object. */
final class Told {
  private Told() {
  }

  /** Returns the answer as a text would tell it: 7, 'a', true, or throws and the exception. */
  static String answer(CoatLine x, String name, String arguments) {
    String[] parts = arguments.isBlank() ? new String[0] : arguments.split(",");
    Method method = method(name);
    try {
      Object answer = method.invoke(x, numbers(method.getParameterTypes(), parts));
      return answer instanceof Character ? "'" + answer + "'" : String.valueOf(answer);
    } catch (InvocationTargetException refused) {
      return "throws " + refused.getCause().getClass().getSimpleName();
    } catch (IllegalAccessException hidden) {
      throw new IllegalStateException(hidden);
    }
  }

  private static Method method(String name) {
    return Arrays.stream(CoatLine.class.getMethods())
        .filter(method -> method.getName().equals(name))
        .findFirst().orElseThrow(() -> new IllegalStateException("no call " + name));
  }

  private static Object[] numbers(Class<?>[] types, String[] parts) {
    if (types.length != parts.length) {
      throw new IllegalStateException("not so many arguments: " + Arrays.toString(parts));
    }
    Object[] numbers = new Object[parts.length];
    for (int i = 0; i < parts.length; i++) {
      numbers[i] = number(types[i], parts[i].trim());
    }
    return numbers;
  }

  private static Object number(Class<?> type, String part) {
    if (type == char.class) {
      return part.charAt(1);
    }
    if (type == boolean.class) {
      return Boolean.valueOf(part);
    }
    return Integer.valueOf(part);
  }
}
