import java.lang.reflect.InvocationTargetException;
import java.lang.reflect.Method;
import java.util.HashMap;
import java.util.Map;
import java.util.Random;

/**
 * Runs of calls, the same ones each time. Each call goes to one object; one that did not throw goes
 * to a second object too, which must answer alike: so a call that throws has changed nothing.
 */
final class RandomRunsTest {
  private static final int RUNS = 1500;
  private static final int CALLS = 500;
  private static final Check check = new Check("RandomRunsTest");
  private static final Map<String, Method> METHODS = new HashMap<>();
  private static final Map<String, Integer> ANSWERED = new HashMap<>();

  // A letter for each argument: see number() and letter().
  private static final String[] CALL = {
    "lot kSA", "left l", "drift D", "reset", "coat lMW", "weight cm", "mark cmM", "press cP",
    "thickness cm", "slit cR", "sharpen", "burr r", "next r", "gap g", "dew d", "wind rrL",
    "cellAt xw", "isShort x", "isPlated x", "traced xbL", "fill xR", "pass H", "room o",
    "protocol CT", "step pCT", "form xph", "freeAt h", "givenBack", "bounds BBS", "sort x",
    "module Ns", "cellOf ui", "spread u", "pack uv", "offset aO", "drive aCT", "rest aT", "on a",
    "stage a", "state a", "recount a", "balance a", "doubt cmm", "doubtAll bG", "clear t",
    "isCovered x", "isRecalled a", "sisters x", "isSister xx", "time", "readyShare", "meanHold",
    "checksum", "isSound"
  };

  public static void main(String[] args) throws Exception {
    for (Method method : CoatLine.class.getDeclaredMethods()) {
      METHODS.put(method.getName(), method);
    }
    Random random = new Random(20261119);
    for (int run = 0; run < RUNS; run++) {
      run(random);
    }
    for (String call : CALL) {
      String name = call.split(" ")[0];
      check.yes(name + " answered in some run", ANSWERED.getOrDefault(name, 0) > 100);
    }
    check.end();
  }

  private static void run(Random random) throws Exception {
    CoatLine x = new CoatLine();
    CoatLine y = new CoatLine();
    int calls = 0;
    if (random.nextInt(4) > 0) {
      calls = settle(random, x, y);
    }
    while (calls < CALLS) {
      String[] call = CALL[random.nextInt(CALL.length)].split(" ");
      Method method = METHODS.get(call[0]);
      Object[] arguments = arguments(random, call.length > 1 ? call[1] : "", method);
      calls += both(x, y, method, arguments);
    }
    check.yes("sound", x.isSound());
    check.is("like the second object", y.checksum(), x.checksum());
  }

  /** Brings both objects to packs, which calls at random seldom reach. */
  private static int settle(Random random, CoatLine x, CoatLine y) throws Exception {
    int calls = 0;
    int length = 4 + random.nextInt(7);
    Object[][] first = {
      {"drift", random.nextInt(30)}, {"lot", 'p', 60 + random.nextInt(90), 999},
      {"lot", 'n', 60 + random.nextInt(90), 999}, {"coat", 0, 200, 10 + random.nextInt(80)},
      {"reset"}, {"coat", 1, 200, 10 + random.nextInt(80)}, {"mark", 0, random.nextInt(40), 's'},
      {"slit", 0, 2}, {"slit", 1, 2}, {"protocol", random.nextInt(31), 1 + random.nextInt(20)},
      {"step", 0, -random.nextInt(31), 1 + random.nextInt(6)}, {"bounds", 0, 0, 99}
    };
    for (Object[] one : first) {
      calls += told(x, y, one);
    }
    for (int cell = 0; cell < 8; cell++) {
      calls += told(x, y, "wind", cell % 2, 2 + cell % 2, length + random.nextInt(2));
      calls += told(x, y, "fill", cell, 4);
      calls += told(x, y, "form", cell, 0, cell % 4);
    }
    calls += told(x, y, "pass", 30 + random.nextInt(60));
    for (int module = 0; module < 3; module++) {
      calls += told(x, y, "module", 2, 'a');
    }
    calls += told(x, y, "pack", 0, random.nextBoolean() ? 1 : -1);
    calls += told(x, y, "pack", 2, -1);
    return calls;
  }

  private static int told(CoatLine x, CoatLine y, Object... call) throws Exception {
    Object[] arguments = java.util.Arrays.copyOfRange(call, 1, call.length);
    return both(x, y, METHODS.get((String) call[0]), arguments);
  }

  private static int both(CoatLine x, CoatLine y, Method method, Object[] arguments)
      throws Exception {
    Object got;
    try {
      got = method.invoke(x, arguments);
    } catch (InvocationTargetException refused) {
      Class<?> kind = refused.getCause().getClass();
      boolean isDue = java.util.Arrays.asList(method.getExceptionTypes()).contains(kind);
      check.yes(method.getName() + " may throw " + kind, isDue);
      check.yes(method.getName() + " throws it", Check.isThrownByTheClass(refused.getCause()));
      return 1;
    }
    ANSWERED.merge(method.getName(), 1, Integer::sum);
    Object again = method.invoke(y, arguments);
    check.yes(method.getName() + " answers " + got + " and " + again, got.equals(again));
    return 1;
  }

  private static Object[] arguments(Random random, String letters, Method method) {
    Object[] arguments = new Object[letters.length()];
    for (int i = 0; i < arguments.length; i++) {
      Class<?> type = method.getParameterTypes()[i];
      if (type == char.class) {
        arguments[i] = letter(random, letters.charAt(i));
      } else if (type == boolean.class) {
        arguments[i] = random.nextBoolean();
      } else {
        arguments[i] = number(random, letters.charAt(i));
      }
    }
    return arguments;
  }

  private static char letter(Random random, char what) {
    String letters = what == 'k' ? "pnpnq" : what == 'M' ? "scb-z" : what == 's' ? "ababx"
        : "hirtuwbdz";
    return letters.charAt(random.nextInt(letters.length()));
  }

  private static int number(Random random, char what) {
    if (random.nextInt(60) == 0) {
      int[] odd = {Integer.MIN_VALUE, -1000, -2, -1, 0, 1, 1000, 100000, Integer.MAX_VALUE};
      return odd[random.nextInt(odd.length)];
    }
    switch (what) {
      case 'S': return 49 + random.nextInt(103);
      case 'A': return random.nextInt(1001);
      case 'D': return random.nextInt(101);
      case 'M': return 9 + random.nextInt(193);
      case 'W': return 9 + random.nextInt(83);
      case 'm': return random.nextInt(60);
      case 'P': return random.nextInt(102);
      case 'R': return random.nextInt(6);
      case 'g': return random.nextInt(11);
      case 'd': return random.nextInt(63) - 61;
      case 'L': return 1 + random.nextInt(random.nextInt(5) == 0 ? 41 : 8);
      case 'H': return 1 + random.nextInt(random.nextInt(5) == 0 ? 501 : 30);
      case 'o': return random.nextInt(63) - 21;
      case 'C': return random.nextInt(63) - 31;
      case 'T': return random.nextInt(23);
      case 'B': return random.nextInt(300);
      case 'N': return 1 + random.nextInt(4);
      case 'O': return random.nextInt(13) - 6;
      case 'G': return random.nextInt(9);
      case 'v': return random.nextInt(8) - 1;
      case 'x': return random.nextInt(12);
      default: return random.nextInt(5);
    }
  }
}
