import java.lang.reflect.InvocationTargetException;
import java.lang.reflect.Method;
import java.util.ArrayList;
import java.util.Arrays;
import java.util.HashMap;
import java.util.List;
import java.util.Map;
import java.util.Random;

/**
 * Runs of calls, the same ones each time. Each call goes to one object and to the model, which must
 * answer alike or throw the same. One that did not throw and is no question alone goes to a second
 * object too, which must be the same inside at the end: so a call that throws, and a question, has
 * changed nothing.
 */
final class RandomRunsTest {
  private static final int RUNS = 1500;
  private static final int CALLS = 500;
  private static final Check check = new Check("RandomRunsTest");
  private static final Map<String, Method> METHODS = new HashMap<>();
  private static final Map<String, Integer> ANSWERED = new HashMap<>();

  // A letter for each argument: see number() and letter().
  private static final String[] CALL = {
    "lot kSA", "left l", "drift D", "reset", "coat lMW", "weight cm", "mark cmM", "press cP",
    "thickness cm", "slit cR", "sharpen", "burr r", "next r", "gap g", "dew d", "wind rrL",
    "cellAt xw", "isShort x", "isPlated x", "traced xbL", "fill xR", "pass H", "room o",
    "protocol CT", "step pCT", "form xph", "freeAt h", "givenBack", "bounds BBS", "sort x",
    "module Ns", "cellOf ui", "spread u", "pack uv", "offset aO", "drive aCT", "rest aT", "on a",
    "stage a", "state a", "recount a", "balance a", "doubt cmm", "doubtAll bG", "clear t",
    "isCovered x", "isRecalled a", "sisters x", "isSister xx", "time", "readyShare", "meanHold",
    "checksum", "isSound"
  };
  private static final String[] DRIVING = {
    "drive aCT", "drive aCT", "drive aCT", "rest aT", "on a", "offset aO", "recount a", "stage a",
    "room o", "clear t", "balance a"
  };
  private static final String[] MAKING = {
    "wind rrL", "wind rrL", "wind rrL", "fill xR", "form xph", "form xph", "pass H", "module Ns",
    "pack uv", "slit cR", "clear t"
  };

  private static final List<String> QUESTIONS = List.of(
      "left", "weight", "thickness", "burr", "next", "cellAt", "isShort", "isPlated", "traced",
      "freeAt", "givenBack", "sort", "cellOf", "spread", "stage", "state", "isCovered",
      "isRecalled", "sisters", "isSister", "time", "readyShare", "meanHold", "checksum", "isSound");

  public static void main(String[] args) throws Exception {
    for (Method method : CoatLine.class.getDeclaredMethods()) {
      METHODS.put(method.getName(), method);
    }
    Random random = new Random(20261119);
    for (int run = 0; run < RUNS; run++) {
      run(random);
    }
    for (String call : CALL) {
      String name = call.split(" ")[0];
      check.yes(name + " answered in some run", ANSWERED.getOrDefault(name, 0) > 100);
    }
    check.end();
  }

  /** What the calls of a run go to. */
  private static final class Trio {
    final CoatLine x = new CoatLine();
    final CoatLine y = new CoatLine();
    final Model model = new Model();

    Method modelMethod(Method method) throws NoSuchMethodException {
      return Model.class.getDeclaredMethod(method.getName(), method.getParameterTypes());
    }
  }

  private static void run(Random random) throws Exception {
    Trio trio = new Trio();
    int calls = 0;
    if (random.nextInt(4) > 0) {
      calls = settle(random, trio);
    }
    List<String> often = often(random);
    while (calls < CALLS) {
      boolean isOften = random.nextInt(3) > 0;
      String text = isOften ? often.get(random.nextInt(often.size()))
          : CALL[random.nextInt(CALL.length)];
      String[] call = text.split(" ");
      Method method = METHODS.get(call[0]);
      Object[] arguments = arguments(random, call.length > 1 ? call[1] : "", method, trio.model);
      calls += both(trio, method, arguments);
    }
    check.yes("like the second object", Inside.of(trio.y).equals(Inside.of(trio.x)));
    alike(trio.x, trio.model);
  }

  /** Few calls, other ones in each run, so that each gets to its limit in some run. */
  private static List<String> often(Random random) {
    List<String> often = new ArrayList<>();
    for (int i = 0; i < 8; i++) {
      String call = CALL[random.nextInt(CALL.length)];
      if (!call.startsWith("doubt") || random.nextInt(4) == 0) {
        often.add(call);
      }
    }
    for (String call : random.nextBoolean() ? DRIVING : MAKING) {
      often.add(call);
    }
    return often;
  }

  /** Asks for what is not told by each answer. */
  private static void alike(CoatLine x, Model model) {
    check.is("checksum", x.checksum(), model.checksum());
    for (int cell = 0; cell < 24 && hasCell(model, cell); cell++) {
      for (char what : "hirtuwbd".toCharArray()) {
        check.is("cell " + cell + " " + what, x.cellAt(cell, what), model.cellAt(cell, what));
      }
      check.isLetter("sort of cell " + cell, x.sort(cell), model.sort(cell));
      check.is("sisters of cell " + cell, x.sisters(cell), model.sisters(cell));
    }
  }

  private static boolean hasCell(Model model, int cell) {
    try {
      model.sort(cell);
      return true;
    } catch (IndexOutOfBoundsException none) {
      return false;
    }
  }

  /** Brings all of them to packs, which calls at random seldom reach. */
  private static int settle(Random random, Trio trio) throws Exception {
    int calls = 0;
    int length = 4 + random.nextInt(7);
    Object[][] first = {
      {"drift", random.nextInt(30)}, {"lot", 'p', 60 + random.nextInt(90), 999},
      {"lot", 'n', 60 + random.nextInt(90), 999}, {"coat", 0, 200, 10 + random.nextInt(80)},
      {"reset"}, {"coat", 1, 200, 10 + random.nextInt(80)}, {"mark", 0, random.nextInt(40), 's'},
      {"slit", 0, 2}, {"slit", 1, 2}, {"protocol", random.nextInt(31), 1 + random.nextInt(20)},
      {"step", 0, -random.nextInt(31), 1 + random.nextInt(6)}, {"bounds", 0, 0, 99}
    };
    for (Object[] one : first) {
      calls += tell(trio, one);
    }
    for (int cell = 0; cell < 8; cell++) {
      calls += tell(trio, "wind", cell % 2, 2 + cell % 2, length + random.nextInt(2));
      calls += tell(trio, "fill", cell, 4);
      calls += tell(trio, "form", cell, 0, cell % 4);
    }
    calls += tell(trio, "pass", 30 + random.nextInt(60));
    for (int module = 0; module < 3; module++) {
      calls += tell(trio, "module", 2, 'a');
    }
    calls += tell(trio, "pack", 0, random.nextBoolean() ? 1 : -1);
    calls += tell(trio, "pack", 2, -1);
    return calls;
  }

  private static int tell(Trio trio, Object... call) throws Exception {
    Object[] arguments = Arrays.copyOfRange(call, 1, call.length);
    return both(trio, METHODS.get((String) call[0]), arguments);
  }

  private static int both(Trio trio, Method method, Object[] arguments) throws Exception {
    Object due;
    try {
      due = trio.modelMethod(method).invoke(trio.model, arguments);
    } catch (InvocationTargetException refused) {
      due = refused.getCause().getClass();
    }
    try {
      Object got = method.invoke(trio.x, arguments);
      check.yes(told(method, arguments) + " answers " + got + ", due is " + due, got.equals(due));
    } catch (InvocationTargetException refused) {
      Throwable thrown = refused.getCause();
      String what = told(method, arguments) + " throws " + thrown + ", due is " + due;
      check.yes(what, thrown.getClass() == due && Check.isThrownByTheClass(thrown));
      return 1;
    }
    int answers = ANSWERED.merge(method.getName(), 1, Integer::sum);
    if (!QUESTIONS.contains(method.getName()) || answers % 2 == 0) {
      method.invoke(trio.y, arguments);
    }
    return 1;
  }

  private static String told(Method method, Object[] arguments) {
    return method.getName() + Arrays.toString(arguments);
  }

  private static Object[] arguments(Random random, String letters, Method method,
      Model model) {
    Object[] arguments = new Object[letters.length()];
    for (int i = 0; i < arguments.length; i++) {
      Class<?> type = method.getParameterTypes()[i];
      if (type == char.class) {
        arguments[i] = letter(random, letters.charAt(i));
      } else if (type == boolean.class) {
        arguments[i] = random.nextBoolean();
      } else {
        arguments[i] = number(random, letters.charAt(i), model);
      }
    }
    return arguments;
  }

  private static char letter(Random random, char what) {
    String letters = what == 'k' ? "pnpnq" : what == 'M' ? "scb-z" : what == 's' ? "ababx"
        : "hirtuwbdz";
    return letters.charAt(random.nextInt(letters.length()));
  }

  private static int number(Random random, char what, Model model) {
    if (random.nextInt(60) == 0) {
      int[] odd = {Integer.MIN_VALUE, -1000, -2, -1, 0, 1, 1000, 100000, Integer.MAX_VALUE};
      return odd[random.nextInt(odd.length)];
    }
    switch (what) {
      case 'S': return 49 + random.nextInt(103);
      case 'A': return random.nextInt(1001);
      case 'D': return random.nextInt(101);
      case 'M': return 9 + random.nextInt(193);
      case 'W': return 9 + random.nextInt(83);
      case 'm': return random.nextInt(60);
      case 'P': return random.nextInt(102);
      case 'R': return random.nextInt(6);
      case 'g': return random.nextInt(11);
      case 'd': return random.nextInt(63) - 61;
      case 'L': return 1 + random.nextInt(random.nextInt(5) == 0 ? 41 : 8);
      case 'H': return 1 + random.nextInt(random.nextInt(5) == 0 ? 501 : 30);
      case 'o': return random.nextInt(63) - 21;
      case 'C': return random.nextInt(63) - 31;
      case 'T': return random.nextInt(23);
      case 'B': return random.nextInt(300);
      case 'N': return 1 + random.nextInt(4);
      case 'O': return random.nextInt(13) - 6;
      case 'G': return random.nextInt(9);
      case 'h': return random.nextInt(5);
      case 'v': return random.nextInt(model.have('u') + 2) - 1;
      default: return random.nextInt(model.have(what) + (random.nextInt(8) == 0 ? 2 : 1));
    }
  }
}
