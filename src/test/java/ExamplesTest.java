import java.nio.file.Files;
import java.nio.file.Path;
import java.util.regex.Matcher;
import java.util.regex.Pattern;

/** The examples at the end of "Terms", each on a new object. */
final class ExamplesTest {
  private static final Check check = new Check("ExamplesTest");

  public static void main(String[] args) throws Exception {
    asTheDocumentHasThem();
    twoCoatsWoundToACell();
    markTraced();
    cellFormed();
    driftMovesWeights();
    check.end();
  }

  /** Reads them out of the document, where lines break within calls. */
  private static void asTheDocumentHasThem() throws Exception {
    String document = Files.readString(Path.of("../shared/DOC.md"));
    int from = document.indexOf("\nExamples: ");
    String all = document.substring(from, document.indexOf("\nAhead of the calls", from));
    String[] examples = all.replace("```text", "").replace("```", "").split("\n- ");
    int[] calls = {11, 10, 15, 7};
    check.is("examples", examples.length - 1, calls.length);
    for (int i = 1; i < examples.length; i++) {
      String text = examples[i].replaceAll("\\s+", " ");
      check.is("calls of example " + i, run(text), calls[i - 1]);
    }
  }

  private static int run(String text) {
    CoatLine x = new CoatLine();
    Matcher call = Pattern.compile("(\\w+)\\(([^)]*)\\) = ('.'|-?\\d+)").matcher(text);
    int calls = 0;
    while (call.find()) {
      String answer = Told.answer(x, call.group(1), call.group(2));
      check.yes(call.group() + " answered " + answer, answer.equals(call.group(3)));
      calls++;
    }
    return calls;
  }

  private static void twoCoatsWoundToACell() {
    CoatLine x = new CoatLine();
    check.is("lot p", x.lot('p', 100, 99), 0);
    check.is("lot n", x.lot('n', 100, 99), 1);
    check.is("coat 0", x.coat(0, 20, 50), 0);
    check.is("coat 1", x.coat(1, 20, 50), 1);
    check.is("slit 0", x.slit(0, 1), 0);
    check.is("slit 1", x.slit(1, 1), 1);
    check.is("wind", x.wind(0, 1, 4), 0);
    check.is("base", x.cellAt(0, 'b'), 200);
    check.is("resistance", x.cellAt(0, 'r'), 12);
    check.is("next 0", x.next(0), 4);
    check.is("next 1", x.next(1), 5);
  }

  private static void markTraced() {
    CoatLine x = new CoatLine();
    check.is("lot p", x.lot('p', 100, 99), 0);
    check.is("coat 0", x.coat(0, 20, 50), 0);
    check.isLetter("mark", x.mark(0, 2, 's'), '-');
    check.is("lot n", x.lot('n', 100, 99), 1);
    check.is("coat 1", x.coat(1, 20, 50), 1);
    check.is("slit 0", x.slit(0, 1), 0);
    check.is("slit 1", x.slit(1, 1), 1);
    check.is("wind", x.wind(0, 1, 4), 0);
    check.is("traced p", x.traced(0, true, 0), 3);
    check.is("traced n", x.traced(0, false, 0), 1000);
  }

  private static void cellFormed() {
    CoatLine x = new CoatLine();
    check.is("lot p", x.lot('p', 100, 99), 0);
    check.is("lot n", x.lot('n', 100, 99), 1);
    check.is("coat 0", x.coat(0, 20, 50), 0);
    check.is("coat 1", x.coat(1, 20, 50), 1);
    check.is("slit 0", x.slit(0, 1), 0);
    check.is("slit 1", x.slit(1, 1), 1);
    check.is("wind", x.wind(0, 1, 4), 0);
    check.is("fill", x.fill(0, 4), 60);
    check.is("pass", x.pass(20), 20);
    check.is("wet", x.cellAt(0, 'w'), 100);
    check.is("protocol", x.protocol(10, 5), 0);
    check.is("form", x.form(0, 0, 0), 25);
    check.is("hold", x.cellAt(0, 'h'), 178);
    check.is("in", x.cellAt(0, 'i'), 50);
    check.isLetter("sort", x.sort(0), '-');
  }

  private static void driftMovesWeights() {
    CoatLine x = new CoatLine();
    check.is("drift", x.drift(10), 0);
    check.is("lot", x.lot('p', 100, 99), 0);
    check.is("coat 0", x.coat(0, 20, 50), 0);
    check.is("weight 0 9", x.weight(0, 9), 50);
    check.is("weight 0 10", x.weight(0, 10), 51);
    check.is("coat 1", x.coat(0, 10, 50), 1);
    check.is("weight 1 0", x.weight(1, 0), 52);
  }
}
