import java.lang.reflect.Array;
import java.lang.reflect.Field;
import java.lang.reflect.Modifier;
import java.util.IdentityHashMap;
import java.util.List;
import java.util.Map;

/** Tells all that an object holds as one text, so that two moments of it can be compared. */
final class Inside {
  // Written anew by each call that reads it, so it is no state of the object.
  private static final String SCRATCH = "candidates";

  private final StringBuilder text = new StringBuilder();
  private final Map<Object, Integer> seen = new IdentityHashMap<>();

  private Inside() {
  }

  static String of(CoatLine x) {
    Inside inside = new Inside();
    try {
      inside.tell(x);
    } catch (IllegalAccessException refused) {
      throw new IllegalStateException(refused);
    }
    return inside.text.toString();
  }

  private void tell(Object what) throws IllegalAccessException {
    if (what == null || what instanceof Number || what instanceof Character
        || what instanceof Boolean) {
      text.append(what).append(' ');
    } else if (seen.containsKey(what)) {
      text.append('#').append(seen.get(what)).append(' ');
    } else {
      seen.put(what, seen.size());
      tellParts(what);
    }
  }

  private void tellParts(Object what) throws IllegalAccessException {
    text.append('{');
    if (what instanceof List) {
      for (Object part : (List<?>) what) {
        tell(part);
      }
    } else if (what.getClass().isArray()) {
      for (int i = 0; i < Array.getLength(what); i++) {
        tell(Array.get(what, i));
      }
    } else {
      tellFields(what);
    }
    text.append('}');
  }

  private void tellFields(Object what) throws IllegalAccessException {
    for (Field field : what.getClass().getDeclaredFields()) {
      if (!Modifier.isStatic(field.getModifiers()) && !field.getName().equals(SCRATCH)) {
        field.setAccessible(true);
        text.append(field.getName()).append('=');
        tell(field.get(what));
      }
    }
  }
}
