/** Edges of modules and packs. */
final class PackEdgesTest {
  private static final Check check = new Check("PackEdgesTest");

  public static void main(String[] args) {
    justSoManyCells();
    spreadOfEvenAndOne();
    sortsNextToEachOther();
    packsOfOneAndTwo();
    fullByOne();
    emptyByOne();
    oneOfThemEndsIt();
    hottestOfThem();
    halvedAndCut();
    offAboveEighty();
    stagesGoAway();
    longestDrive();
    stateByOffsets();
    stateAtItsBounds();
    stateUnderAShrinkingHold();
    recountBothWays();
    balanceToTheLeast();
    recalledByEachCell();
    restsThoughOff();
    check.end();
  }

  private static void justSoManyCells() {
    for (int count = 2; count <= 6; count++) {
      int[] lengths = new int[count];
      java.util.Arrays.fill(lengths, 4);
      CoatLine x = Works.ready(50, lengths);
      for (int more = count + 1; more <= 6; more++) {
        int tooMany = more;
        check.refuses(more + " of " + count, Works.ELEMENT, x, () -> x.module(tooMany, 'a'));
      }
      check.is(count + " of " + count, x.module(count, 'a'), 0);
      check.is("the last one", x.cellOf(0, count - 1), count - 1);
      check.refuses("one behind it", Works.ELEMENT, x, () -> x.cellOf(0, lengths.length));
      check.refuses("none left", Works.ELEMENT, x, () -> x.module(2, 'a'));
    }
  }

  private static void spreadOfEvenAndOne() {
    CoatLine x = Works.ready(50, 4, 4, 6, 5);
    x.bounds(0, 0, 99);
    x.module(2, 'a');
    check.is("like ones", x.spread(0), 0);
    x.module(2, 'a');
    check.is("250 and 300, 25 and 30 less", x.spread(1), 45);
    check.is("by numbers", x.cellOf(1, 0), 2);
  }

  /** Cells that hold 178, and the bounds next to it. */
  private static void sortsNextToEachOther() {
    int[][] bounds = {{178, 178, 12}, {178, 178, 11}, {179, 178, 12}, {179, 179, 12}};
    char[] sorts = {'a', 'b', 'b', 'c'};
    for (int i = 0; i < sorts.length; i++) {
      for (char sort = 'a'; sort <= 'b'; sort++) {
        CoatLine x = Works.ready(50, 4, 4);
        x.bounds(bounds[i][0], bounds[i][1], bounds[i][2]);
        char asked = sort;
        if (sort == sorts[i]) {
          check.is("of sort " + sort, x.module(2, sort), 0);
        } else {
          check.refuses("not of sort " + sort, Works.ELEMENT, x, () -> x.module(2, asked));
        }
      }
    }
  }

  private static CoatLine modules(int modules) {
    int[] lengths = new int[2 * modules];
    java.util.Arrays.fill(lengths, 4);
    CoatLine x = Works.ready(50, lengths);
    for (int module = 0; module < modules; module++) {
      x.module(2, 'a');
    }
    return x;
  }

  private static void packsOfOneAndTwo() {
    CoatLine x = modules(6);
    check.is("of two", x.pack(5, 4), 0);
    check.is("of two", x.pack(0, 1), 1);
    check.is("of one", x.pack(2, -1), 2);
    check.refuses("second one taken", Works.UNSUPPORTED, x, () -> x.pack(3, 4));
    check.refuses("first one taken", Works.UNSUPPORTED, x, () -> x.pack(5, -1));
    check.is("the fourth", x.pack(3, -1), 3);
    check.yes("sound", x.isSound());
    x.drive(0, 5, 1);
    int[] contents = {0, 0, 0, 0, 0, 0, 0, 0, 5, 5, 5, 5};
    for (int cell = 0; cell < contents.length; cell++) {
      check.is("in cell " + cell, x.cellAt(cell, 'i'), contents[cell]);
    }
  }

  private static void fullByOne() {
    CoatLine x = Works.packed(4, 4);
    // 178, and 177 from a throughput of 100 on.
    check.is("to 170", x.drive(0, 10, 17), 17);
    check.is("to 176", x.drive(0, 6, 1), 1);
    check.is("one hour to the last one", x.drive(0, 1, 5), 1);
    check.isLetter("full", x.stage(0), 'f');
    check.is("all of it", x.cellAt(0, 'i'), 177);
    check.is("none", x.drive(0, 30, 5), 0);
    check.is("one out", x.drive(0, -1, 1), 1);
    check.is("not full by one", x.drive(0, 30, 5), 1);
    check.is("all of it", x.cellAt(1, 'i'), 177);
    check.isLetter("full", x.stage(0), 'f');
    check.is("the state has no more", x.state(0), 177);
  }

  private static void emptyByOne() {
    CoatLine x = Works.packed(4, 4);
    x.drive(0, 10, 1);
    check.is("to 1", x.drive(0, -9, 1), 1);
    check.isLetter("not empty", x.stage(0), '-');
    check.is("one hour to nothing", x.drive(0, -1, 5), 1);
    check.isLetter("empty", x.stage(0), 'e');
    check.is("none", x.drive(0, -30, 5), 0);
    check.is("one in", x.drive(0, 1, 1), 1);
    check.is("not empty by one", x.drive(0, -30, 5), 1);
    check.is("nothing", x.cellAt(1, 'i'), 0);
    check.isLetter("empty", x.stage(0), 'e');
    check.is("the state has no less", x.state(0), 0);
  }

  /** Cells 0 to 3 of two modules in a pack; cell 3 has 100 in it, the others have none. */
  private static void oneOfThemEndsIt() {
    CoatLine x = Works.wet(50, 8, 8, 8, 3);
    x.protocol(0, 1);
    x.protocol(20, 5);
    for (int cell = 0; cell < 4; cell++) {
      x.form(cell, cell / 3, cell);
    }
    x.pass(5);
    x.bounds(0, 0, 99);
    x.module(2, 'a');
    x.module(2, 'a');
    x.pack(0, 1);
    check.is("in the last one", x.cellAt(3, 'i'), 100);
    check.is("cool", x.rest(0, 40), 3);
    check.is("empty by the others", x.drive(0, -1, 1), 0);
    check.isLetter("empty", x.stage(0), 'e');
    check.is("nothing went out", x.cellAt(3, 'i'), 100);
    // It holds 150 - 15 - 2, and 1 less by a throughput of 100.
    check.is("room for 32", x.drive(0, 4, 40), 8);
    check.isLetter("full by the last one", x.stage(0), 'f');
    check.is("full", x.cellAt(3, 'i'), 132);
    check.is("the others are not", x.cellAt(0, 'i'), 32);
    check.is("empty by the others again", x.drive(0, -20, 40), 2);
    check.is("what is left in the last one", x.cellAt(3, 'i'), 92);
    check.isLetter("empty", x.stage(0), 'e');
  }

  private static void hottestOfThem() {
    // Cell 1 has a damp of 6, so a resistance of 16; cell 0 one of 12.
    for (int current = 20; current <= 30; current++) {
      CoatLine x = Works.slit(50, 1);
      x.wind(0, 1, 8);
      x.dew(0);
      x.wind(0, 1, 8);
      Works.packWound(x, 2);
      x.drive(0, current, 1);
      int heat = current * current * 16 / 200;
      check.is("the cooler one", x.cellAt(0, 't'), current * current * 12 / 200);
      check.is("the hottest one", x.cellAt(1, 't'), heat);
      x.drive(0, 2, 1);
      check.isLetter("by " + heat, x.stage(0), heat > 60 ? 'l' : heat > 40 ? 'w' : '-');
      check.is("sent by " + heat, x.cellAt(0, 'i'), current + (heat > 60 ? 1 : 2));
    }
  }

  /** A heat above 60, and a current that is halved. */
  private static void halvedAndCut() {
    int[][] cases = {{30, 15}, {29, 14}, {3, 1}, {2, 1}, {1, 0}, {0, 0}, {-1, 0}, {-2, -1},
        {-3, -1}, {-29, -14}, {-30, -15}};
    for (int[] one : cases) {
      CoatLine x = Works.packed(8, 8);
      x.drive(0, 20, 4);
      check.is("heat", x.cellAt(0, 't'), 66);
      check.is("hours", x.drive(0, one[0], 1), 1);
      check.isLetter("stage", x.stage(0), 'l');
      check.is(one[0] + " halved", x.cellAt(0, 'i') - 80, one[1]);
      check.is("state by " + one[0], x.state(0) - 80, one[1]);
      check.is("heat by " + one[1], x.cellAt(0, 't'), 66 + one[1] * one[1] * 12 / 200 - 16);
      check.is("throughput by " + one[1], x.cellAt(0, 'u') - 80, Math.abs(one[1]));
    }
  }

  private static void offAboveEighty() {
    CoatLine x = Works.packed(8, 8);
    x.drive(0, 30, 2);
    check.is("heat", x.cellAt(0, 't'), 95);
    String before = Inside.of(x);
    check.is("out", x.drive(0, -5, 40), 0);
    check.isLetter("off", x.stage(0), 'o');
    check.is("nothing went out", x.cellAt(0, 'i'), 60);
    check.is("no heat went", x.cellAt(0, 't'), 95);
    check.is("nothing was reckoned", x.state(0), 60);
    check.no("it has changed to off", Inside.of(x).equals(before));
    check.is("time does not set it on", x.pass(500), 521);
    check.refuses("still off", Works.UNSUPPORTED, x, () -> x.drive(0, 0, 1));
    check.is("nor does a rest", x.rest(0, 40), 3);
    check.refuses("still off", Works.UNSUPPORTED, x, () -> x.drive(0, 0, 1));
    check.is("nor a balance", x.balance(0), 0);
    check.is("nor a recount", x.recount(0), 0);
    check.refuses("still off", Works.UNSUPPORTED, x, () -> x.drive(0, 0, 1));
    check.yes("set on", x.on(0));
    check.is("driven", x.drive(0, -5, 40), 12);
    check.isLetter("empty is not off", x.stage(0), 'e');
    check.no("it is on", x.on(0));
  }

  private static void stagesGoAway() {
    CoatLine x = Works.packed(8, 8);
    x.drive(0, 20, 3);
    check.isLetter("warm", x.stage(0), 'w');
    x.rest(0, 1);
    check.isLetter("a rest, though warm", x.stage(0), '-');
    check.is("heat", x.cellAt(0, 't'), 42);
    x.drive(0, 0, 1);
    check.isLetter("warm again", x.stage(0), 'w');
    x.drive(0, 0, 1);
    check.isLetter("an hour ahead of which it is not", x.stage(0), '-');
    check.is("60 out", x.drive(0, -10, 40), 6);
    check.isLetter("empty", x.stage(0), 'e');
    x.drive(0, 0, 40);
    check.isLetter("hours without any", x.stage(0), '-');
    CoatLine y = Works.packed(8, 8);
    y.drive(0, 20, 4);
    check.is("66 to 24", y.drive(0, 0, 4), 4);
    check.is("heat", y.cellAt(0, 't'), 22);
    check.isLetter("the last hour had none", y.stage(0), '-');
  }

  private static void longestDrive() {
    CoatLine x = Works.packed(40, 40);
    check.is("40 hours by 10", x.drive(0, 10, 40), 40);
    check.is("in", x.cellAt(0, 'i'), 400);
    check.is("state", x.state(0), 400);
    check.is("40 hours out", x.drive(0, -10, 40), 40);
    check.is("in", x.cellAt(0, 'i'), 0);
    check.is("state", x.state(0), 0);
    check.is("resistance", x.cellAt(0, 'r'), 12 + 8);
    check.is("hold", x.cellAt(0, 'h'), 2000 - 200 - 2 - 8);
  }

  private static void stateByOffsets() {
    for (int offset = -5; offset <= 5; offset++) {
      CoatLine x = Works.packed(8, 8);
      x.drive(0, 10, 5);
      x.offset(0, offset);
      check.is("not as it is told", x.state(0), 50);
      x.drive(0, 2, 3);
      check.is("3 hours by " + offset, x.state(0), 50 + 3 * (2 + offset));
      x.rest(0, 2);
      check.is("2 more by " + offset, x.state(0), 50 + 3 * (2 + offset) + 2 * offset);
      check.is("what is in it", x.cellAt(0, 'i'), 56);
      check.is("off by", x.recount(0), 5 * offset);
    }
  }

  private static void stateAtItsBounds() {
    CoatLine x = Works.packed(2, 2);
    // They hold 88.
    x.offset(0, 4);
    x.rest(0, 21);
    check.is("84", x.state(0), 84);
    x.rest(0, 1);
    check.is("88 of 88", x.state(0), 88);
    x.rest(0, 1);
    check.is("no more", x.state(0), 88);
    x.offset(0, -4);
    x.rest(0, 21);
    check.is("4", x.state(0), 4);
    x.rest(0, 1);
    check.is("0", x.state(0), 0);
    x.rest(0, 1);
    check.is("no less", x.state(0), 0);
    x.offset(0, 5);
    x.rest(0, 17);
    check.is("85", x.state(0), 85);
    x.rest(0, 1);
    check.is("88, not 90", x.state(0), 88);
    x.offset(0, -5);
    x.rest(0, 17);
    check.is("3", x.state(0), 3);
    x.rest(0, 1);
    check.is("0, not -2", x.state(0), 0);
  }

  private static void stateUnderAShrinkingHold() {
    CoatLine x = Works.packed(2, 9);
    x.offset(0, 5);
    x.rest(0, 20);
    check.is("the least hold", x.state(0), 88);
    x.room(-20);
    x.drive(0, 30, 1);
    check.is("3 less behind the hour", x.state(0), 85);
    check.is("which is what it can hold", x.cellAt(0, 'h'), 85);
    x.room(20);
    x.offset(0, 0);
    x.drive(0, -30, 1);
    check.is("30 less", x.state(0), 55);
  }

  private static void recountBothWays() {
    CoatLine x = Works.packed(8, 8);
    check.is("empty and 0", x.recount(0), 0);
    x.drive(0, 10, 4);
    x.offset(0, -5);
    x.rest(0, 3);
    check.is("too low by 15", x.recount(0), -15);
    check.is("as it is", x.state(0), 40);
    x.offset(0, 5);
    x.rest(0, 3);
    check.is("too high by 15", x.recount(0), 15);
    check.is("as it is", x.state(0), 40);
    check.is("offset stays", x.offset(0, 0), 5);
    CoatLine y = Works.packed(8, 8);
    y.offset(0, 5);
    y.rest(0, 1);
    check.is("of empty ones", y.recount(0), 5);
    check.is("nothing", y.state(0), 0);
  }

  private static void balanceToTheLeast() {
    CoatLine x = Works.wet(50, 8, 8, 8, 8);
    x.protocol(0, 1);
    x.protocol(1, 1);
    x.protocol(30, 3);
    x.protocol(30, 2);
    for (int cell = 0; cell < 4; cell++) {
      x.form(cell, cell, cell);
    }
    x.pass(3);
    x.bounds(0, 0, 99);
    x.module(4, 'a');
    x.pack(0, -1);
    check.is("1, 90 and 60 by an empty one", x.balance(0), 151);
    for (int cell = 0; cell < 4; cell++) {
      check.is("in cell " + cell, x.cellAt(cell, 'i'), 0);
    }
    check.is("none again", x.balance(0), 0);
    check.is("heat stays", x.cellAt(2, 't'), 126);
    check.is("time stays", x.time(), 23);
  }

  private static void recalledByEachCell() {
    for (int cell = 0; cell < 4; cell++) {
      CoatLine x = modules(3);
      x.pack(0, 1);
      x.pack(2, -1);
      x.doubt(0, 4 * cell, 4 * cell);
      check.yes("by cell " + cell, x.isRecalled(0));
      check.no("the other one", x.isRecalled(1));
      check.refuses("by cell " + cell, Works.UNSUPPORTED, x, () -> x.drive(0, 1, 1));
      check.is("the other one goes on", x.drive(1, 1, 1), 1);
      check.is("clear", x.clear(0), 1);
      check.no("cleared", x.isRecalled(0));
      check.is("goes on", x.drive(0, 1, 1), 1);
    }
  }

  private static void restsThoughOff() {
    CoatLine x = Works.packed(8, 8);
    x.drive(0, 30, 3);
    x.doubtAll(true, 0);
    check.yes("recalled", x.isRecalled(0));
    check.is("95 less 23", x.rest(0, 1), 72);
    check.isLetter("rest", x.stage(0), '-');
    check.yes("off all the while", x.on(0));
    check.refuses("on, but recalled", Works.UNSUPPORTED, x, () -> x.drive(0, 0, 1));
    x.clear(0);
    check.is("neither", x.drive(0, 0, 1), 1);
  }
}
