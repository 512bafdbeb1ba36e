import java.util.Random;

/** Promises 32 to 35: modules and the making of packs. */
final class ModulesTest {
  private static final Check check = new Check("ModulesTest");

  public static void main(String[] args) {
    leastSpreadIsTaken();
    leastHoldOfLikeSpreads();
    lowerNumbersOfLikeOnes();
    onlyTheSort();
    onlyReadyAndFree();
    moduleRefused();
    moduleAtMostSix();
    moduleNoneFirst();
    anyChoiceIsTheBest();
    cellsByNumbers();
    spreadOfNow();
    packsAreNumbered();
    packRefused();
    packWithACoveredCell();
    packAtMostFour();
    check.end();
  }

  private static void cells(String what, CoatLine x, int module, int... want) {
    for (int i = 0; i < want.length; i++) {
      check.is(what + ", cell " + i, x.cellOf(module, i), want[i]);
    }
    check.refuses(what + ", no more", Works.ELEMENT, x, () -> x.cellOf(module, want.length));
  }

  // A cell that weighs 10 by the metre and is ready holds 9 by the metre, less 2.
  private static CoatLine anySort(char sort, int... lengths) {
    CoatLine x = Works.ready(10, lengths);
    x.bounds(sort == 'a' ? 0 : 999, 0, 99);
    return x;
  }

  private static void leastSpreadIsTaken() {
    CoatLine x = anySort('a', 4, 9, 20, 10, 2);
    check.is("module", x.module(2, 'a'), 0);
    cells("9 and 10", x, 0, 1, 3);
    check.is("spread", x.spread(0), 9);
    check.is("module", x.module(3, 'a'), 1);
    cells("what is left", x, 1, 0, 2, 4);
    check.is("spread", x.spread(1), 162);
  }

  private static void leastHoldOfLikeSpreads() {
    CoatLine x = anySort('b', 10, 9, 8, 7, 3, 4);
    check.is("module", x.module(2, 'b'), 0);
    cells("3 and 4", x, 0, 4, 5);
    check.is("module", x.module(3, 'b'), 1);
    cells("7, 8 and 9", x, 1, 1, 2, 3);
    CoatLine y = anySort('a', 6, 5, 6, 5, 4);
    y.module(2, 'a');
    cells("5 and 5", y, 0, 1, 3);
    y.module(2, 'a');
    cells("6 and 6", y, 1, 0, 2);
  }

  private static void lowerNumbersOfLikeOnes() {
    CoatLine x = anySort('a', 5, 4, 5, 4);
    x.module(3, 'a');
    cells("the lower one of 5 and 5", x, 0, 0, 1, 3);
    CoatLine y = anySort('a', 9, 5, 5, 5, 5, 5);
    y.module(2, 'a');
    cells("the lowest two", y, 0, 1, 2);
    y.module(2, 'a');
    cells("the next two", y, 1, 3, 4);
    y.module(2, 'a');
    cells("the last two", y, 2, 0, 5);
  }

  private static void onlyTheSort() {
    CoatLine x = Works.ready(10, 20, 20, 10, 10, 3, 3);
    x.bounds(100, 60, 14);
    x.module(2, 'b');
    cells("sort b", x, 0, 2, 3);
    x.module(2, 'a');
    cells("sort a", x, 1, 0, 1);
    check.refuses("sort c", Works.ARGUMENT, x, () -> x.module(2, 'c'));
    check.refuses("no more of b", Works.ELEMENT, x, () -> x.module(2, 'b'));
  }

  private static void onlyReadyAndFree() {
    CoatLine x = Works.wet(50, 4, 4, 4, 4, 4);
    x.bounds(0, 0, 99);
    x.protocol(0, 1);
    x.protocol(0, 2);
    x.form(0, 1, 0);
    x.form(1, 0, 1);
    x.form(2, 0, 2);
    x.room(-20);
    x.protocol(1, 1);
    x.form(3, 2, 3);
    check.refuses("none ready", Works.ELEMENT, x, () -> x.module(2, 'a'));
    x.pass(1);
    check.refuses("two ready", Works.ELEMENT, x, () -> x.module(3, 'a'));
    x.doubt(0, 4, 4);
    check.refuses("one covered", Works.ELEMENT, x, () -> x.module(2, 'a'));
    x.clear(0);
    check.refuses("ever covered", Works.ELEMENT, x, () -> x.module(2, 'a'));
    x.pass(1);
    check.is("two ready again", x.module(2, 'a'), 0);
    cells("0 and 2", x, 0, 0, 2);
    check.refuses("taken", Works.ELEMENT, x, () -> x.module(2, 'a'));
  }

  private static void moduleRefused() {
    CoatLine x = anySort('a', 4, 4, 4, 4, 4, 4, 4);
    check.refuses("count 1", Works.ARGUMENT, x, () -> x.module(1, 'a'));
    check.refuses("count 7", Works.ARGUMENT, x, () -> x.module(7, 'a'));
    check.refuses("count -1", Works.ARGUMENT, x, () -> x.module(-1, 'a'));
    check.refuses("sort x", Works.ARGUMENT, x, () -> x.module(2, 'x'));
    check.refuses("sort -", Works.ARGUMENT, x, () -> x.module(2, '-'));
    check.refuses("no such sort, none", Works.ARGUMENT, x, () -> x.module(2, 'A'));
    check.refuses("none of b", Works.ELEMENT, x, () -> x.module(2, 'b'));
    check.refuses("none was made", Works.INDEX, x, () -> x.spread(0));
    check.is("count 6", x.module(6, 'a'), 0);
    cells("six", x, 0, 0, 1, 2, 3, 4, 5);
    check.refuses("one is too few", Works.ELEMENT, x, () -> x.module(2, 'a'));
  }

  private static void moduleAtMostSix() {
    CoatLine x = anySort('a', 4, 4, 4, 4, 4, 4, 4, 4, 4, 4, 4, 4, 4, 4);
    for (int module = 0; module < 6; module++) {
      check.is("module", x.module(2, 'a'), module);
    }
    check.refuses("seventh", Works.STATE, x, () -> x.module(2, 'a'));
    check.refuses("seventh, too few", Works.ELEMENT, x, () -> x.module(3, 'a'));
    check.refuses("seventh, out of range", Works.ARGUMENT, x, () -> x.module(7, 'a'));
    cells("the sixth", x, 5, 10, 11);
  }

  private static void moduleNoneFirst() {
    CoatLine x = new CoatLine();
    check.refuses("of no cells", Works.ELEMENT, x, () -> x.module(2, 'a'));
    check.refuses("of no cells, out of range", Works.ARGUMENT, x, () -> x.module(0, 'a'));
  }

  private static void anyChoiceIsTheBest() {
    Random random = new Random(5);
    for (int run = 0; run < 300; run++) {
      int[] lengths = new int[4 + random.nextInt(9)];
      for (int i = 0; i < lengths.length; i++) {
        lengths[i] = 2 + random.nextInt(1 + random.nextInt(9));
      }
      CoatLine x = anySort('a', lengths);
      int free = (1 << lengths.length) - 1;
      for (int module = 0; module < 3; module++) {
        int count = 2 + random.nextInt(5);
        int best = best(x, lengths.length, free, count);
        if (best < 0) {
          break;
        }
        check.is("module", x.module(count, 'a'), module);
        int got = 0;
        for (int i = 0; i < count; i++) {
          got |= 1 << x.cellOf(module, i);
        }
        check.is("run " + run + ", cells as bits", got, best);
        free &= ~got;
      }
    }
  }

  /** Looks at every choice there is; its cells as bits, or -1. */
  private static int best(CoatLine x, int cells, int free, int count) {
    int best = -1;
    for (int choice = 0; choice < 1 << cells; choice++) {
      boolean isChoice = (choice & ~free) == 0 && Integer.bitCount(choice) == count;
      if (isChoice && (best < 0 || isBetter(x, cells, choice, best))) {
        best = choice;
      }
    }
    return best;
  }

  private static boolean isBetter(CoatLine x, int cells, int one, int other) {
    int[] figuresOfOne = spreadAndSum(x, cells, one);
    int[] figuresOfOther = spreadAndSum(x, cells, other);
    for (int i = 0; i < 2; i++) {
      if (figuresOfOne[i] != figuresOfOther[i]) {
        return figuresOfOne[i] < figuresOfOther[i];
      }
    }
    return Integer.reverse(one) >>> 1 > Integer.reverse(other) >>> 1;
  }

  private static int[] spreadAndSum(CoatLine x, int cells, int choice) {
    int least = Integer.MAX_VALUE;
    int greatest = 0;
    int sum = 0;
    for (int cell = 0; cell < cells; cell++) {
      if ((choice >> cell & 1) == 1) {
        int hold = x.cellAt(cell, 'h');
        least = Math.min(least, hold);
        greatest = Math.max(greatest, hold);
        sum += hold;
      }
    }
    return new int[] {greatest - least, sum};
  }

  private static void cellsByNumbers() {
    CoatLine x = anySort('a', 9, 4, 8);
    x.module(3, 'a');
    cells("by numbers", x, 0, 0, 1, 2);
    check.refuses("index -1", Works.ELEMENT, x, () -> x.cellOf(0, -1));
    check.refuses("index of the most", Works.ELEMENT, x, () -> x.cellOf(0, Integer.MAX_VALUE));
    check.refuses("module 1", Works.INDEX, x, () -> x.cellOf(1, 9));
    check.refuses("module -1", Works.INDEX, x, () -> x.cellOf(-1, 0));
    check.refuses("spread 1", Works.INDEX, x, () -> x.spread(1));
    check.refuses("spread -1", Works.INDEX, x, () -> x.spread(-1));
  }

  private static void spreadOfNow() {
    CoatLine x = Works.ready(50, 4, 9, 9, 9, 4);
    x.bounds(0, 0, 99);
    x.module(2, 'a');
    x.module(2, 'a');
    cells("ready at 21 and at 22", x, 0, 0, 4);
    check.is("at 22", x.spread(0), 0);
    x.pass(239);
    check.is("at 261", x.spread(0), 1);
    x.pass(1);
    check.is("at 262", x.spread(0), 0);
    CoatLine y = anySort('a', 9, 4, 8);
    y.module(3, 'a');
    check.is("the first one the greatest, the second one the least", y.spread(0), 45);
  }

  private static CoatLine withModules(int modules) {
    int[] lengths = new int[2 * modules];
    java.util.Arrays.fill(lengths, 4);
    CoatLine x = anySort('a', lengths);
    for (int module = 0; module < modules; module++) {
      x.module(2, 'a');
    }
    return x;
  }

  private static void packsAreNumbered() {
    CoatLine x = withModules(4);
    check.is("of one", x.pack(2, -1), 0);
    check.is("of two", x.pack(3, 0), 1);
    check.is("of the last one", x.pack(1, -1), 2);
    check.isLetter("stage", x.stage(2), '-');
    check.is("state", x.state(2), 0);
    check.yes("sound", x.isSound());
  }

  private static void packRefused() {
    CoatLine x = withModules(4);
    check.refuses("module 4", Works.INDEX, x, () -> x.pack(4, 4));
    check.refuses("module -1", Works.INDEX, x, () -> x.pack(-1, -1));
    check.refuses("other 4", Works.INDEX, x, () -> x.pack(0, 4));
    check.refuses("other -2", Works.INDEX, x, () -> x.pack(0, -2));
    check.refuses("the same", Works.ARGUMENT, x, () -> x.pack(1, 1));
    check.refuses("no pack was made", Works.INDEX, x, () -> x.state(0));
    x.pack(1, -1);
    check.refuses("in a pack", Works.UNSUPPORTED, x, () -> x.pack(1, -1));
    check.refuses("first in a pack", Works.UNSUPPORTED, x, () -> x.pack(1, 0));
    check.refuses("second in a pack", Works.UNSUPPORTED, x, () -> x.pack(0, 1));
    check.refuses("the same in a pack", Works.ARGUMENT, x, () -> x.pack(1, 1));
    check.is("the other one is free", x.pack(0, 2), 1);
    check.refuses("taken as a second one", Works.UNSUPPORTED, x, () -> x.pack(2, -1));
    check.is("the last one", x.pack(3, -1), 2);
  }

  private static void packWithACoveredCell() {
    CoatLine x = withModules(3);
    x.doubt(0, 6, 7);
    check.yes("cell 1 is covered", x.isCovered(1));
    check.refuses("covered", Works.UNSUPPORTED, x, () -> x.pack(0, -1));
    check.refuses("first covered", Works.UNSUPPORTED, x, () -> x.pack(0, 1));
    check.refuses("second covered", Works.UNSUPPORTED, x, () -> x.pack(1, 0));
    check.is("not covered", x.pack(1, -1), 0);
    x.clear(0);
    check.is("no longer covered", x.pack(0, -1), 1);
  }

  private static void packAtMostFour() {
    CoatLine x = withModules(6);
    for (int module = 0; module < 4; module++) {
      check.is("pack", x.pack(module, -1), module);
    }
    check.refuses("fifth", Works.STATE, x, () -> x.pack(4, 5));
    check.refuses("fifth of the same", Works.ARGUMENT, x, () -> x.pack(4, 4));
    check.refuses("fifth, in a pack", Works.UNSUPPORTED, x, () -> x.pack(4, 0));
    check.refuses("fifth of no module", Works.INDEX, x, () -> x.pack(6, -1));
  }
}
