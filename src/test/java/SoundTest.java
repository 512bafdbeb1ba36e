import java.lang.reflect.Field;
import java.util.List;

/**
 * Promise 55 again: no run of calls makes a works unsound, so the fields are changed from outside
 * to see that isSound() looks at each thing that it promises.
 */
final class SoundTest {
  private static final Check check = new Check("SoundTest");

  public static void main(String[] args) throws Exception {
    metresInOneCell();
    noMarkedMetres();
    contentWithinHold();
    modulesOfReadyCells();
    inOneEach();
    check.end();
  }

  private static Object field(Object owner, String name) throws Exception {
    Field field = owner.getClass().getDeclaredField(name);
    field.setAccessible(true);
    return field.get(owner);
  }

  private static void set(Object owner, String name, Object value) throws Exception {
    Field field = owner.getClass().getDeclaredField(name);
    field.setAccessible(true);
    field.set(owner, value);
  }

  @SuppressWarnings("unchecked")
  private static List<Object> list(Object owner, String name) throws Exception {
    return (List<Object>) field(owner, name);
  }

  private static void metresInOneCell() throws Exception {
    for (int ribbon = 0; ribbon < 2; ribbon++) {
      for (int from = 3 + ribbon; from <= 4 + ribbon; from++) {
        CoatLine x = Works.wound(50, 4);
        set(list(x, "ribbons").get(ribbon), "takenTo", from);
        x.wind(0, 1, 4);
        check.is("taken from " + from, x.isSound() ? 1 : 0, from - 3 - ribbon);
      }
    }
  }

  private static void noMarkedMetres() throws Exception {
    int[][] cases = {{0, 3, 0}, {0, 4, 1}, {1, 0, 0}, {1, 4, 0}, {1, 5, 1}};
    for (int[] one : cases) {
      CoatLine x = Works.wound(50, 4);
      set(list(x, "coils").get(one[0]), "slit", false);
      x.mark(one[0], one[1], 'c');
      check.is("mark on " + one[0] + " " + one[1], x.isSound() ? 1 : 0, one[2]);
    }
  }

  private static void contentWithinHold() throws Exception {
    int[][] cases = {{-1, 0}, {0, 1}, {200, 1}, {201, 0}};
    for (int[] one : cases) {
      CoatLine x = Works.wound(50, 4, 4);
      set(list(x, "cells").get(0), "content", one[0]);
      check.is("content " + one[0], x.isSound() ? 1 : 0, one[1]);
    }
  }

  private static void modulesOfReadyCells() throws Exception {
    CoatLine x = Works.packed(4, 4);
    Object cell = list(x, "cells").get(0);
    check.yes("ready", x.isSound());
    set(cell, "readyAt", x.time() + 1);
    check.no("ready later", x.isSound());
    set(cell, "readyAt", x.time());
    set(cell, "formed", false);
    check.no("not formed", x.isSound());
  }

  private static void inOneEach() throws Exception {
    CoatLine x = Works.ready(50, 4, 4, 4, 4);
    x.bounds(0, 0, 99);
    x.module(2, 'a');
    x.module(2, 'a');
    Object second = list(x, "modules").get(1);
    list(second, "cells").set(0, list(x, "cells").get(0));
    check.no("a cell in two modules", x.isSound());
    list(second, "cells").set(0, list(x, "cells").get(2));
    check.yes("each in one", x.isSound());
    x.pack(0, -1);
    x.pack(1, -1);
    check.yes("two packs", x.isSound());
    Object first = list(x, "modules").get(0);
    set(list(x, "packs").get(1), "second", first);
    check.no("a module in two packs", x.isSound());
  }
}
