/** Promises 44 to 50: doubts, recalls and sisters. */
final class DoubtsTest {
  private static final Check check = new Check("DoubtsTest");

  public static void main(String[] args) {
    doubtOfMetres();
    doubtRefused();
    doubtOfALot();
    doubtOfBurrs();
    doubtAllRefused();
    doubtsCoverLater();
    atMostEight();
    clearCounts();
    clearRefused();
    coveredRefused();
    recalledPacks();
    sistersByPositives();
    sistersByNegatives();
    sistersCounted();
    sistersRefused();
    check.end();
  }

  // Cells 0 and 1 have metres 0 to 3 and 4 to 7 of coil 0, and 0 to 4 and 5 to 9 of coil 1.
  private static void doubtOfMetres() {
    int[][] cases = {{0, 0, 0, 1, 0}, {0, 3, 3, 1, 0}, {0, 4, 4, 0, 1}, {0, 3, 4, 1, 1},
        {0, 7, 7, 0, 1}, {0, 8, 199, 0, 0}, {0, 0, 199, 1, 1}, {0, 5, 6, 0, 1},
        {1, 4, 4, 1, 0}, {1, 5, 5, 0, 1}, {1, 9, 9, 0, 1}, {1, 10, 199, 0, 0}, {1, 1, 2, 1, 0}};
    for (int[] one : cases) {
      CoatLine x = Works.wound(50, 4, 4);
      String what = "coil " + one[0] + ", " + one[1] + " to " + one[2];
      check.is(what, x.doubt(one[0], one[1], one[2]), 0);
      check.is(what + ", cell 0", x.isCovered(0) ? 1 : 0, one[3]);
      check.is(what + ", cell 1", x.isCovered(1) ? 1 : 0, one[4]);
    }
    CoatLine x = Works.slit(50, 2);
    x.wind(0, 2, 4);
    x.wind(1, 2, 4);
    x.doubt(0, 2, 2);
    check.yes("of one ribbon", x.isCovered(0));
    check.yes("of the other ribbon", x.isCovered(1));
  }

  private static void doubtRefused() {
    CoatLine x = Works.wound(50, 4);
    check.refuses("coil 2", Works.INDEX, x, () -> x.doubt(2, 5, 4));
    check.refuses("coil -1", Works.INDEX, x, () -> x.doubt(-1, 0, 0));
    check.refuses("from -1", Works.INDEX, x, () -> x.doubt(0, -1, 0));
    check.refuses("from 200", Works.INDEX, x, () -> x.doubt(0, 200, 199));
    check.refuses("to 200", Works.INDEX, x, () -> x.doubt(0, 0, 200));
    check.refuses("to -1", Works.INDEX, x, () -> x.doubt(0, 0, -1));
    check.refuses("the last one less", Works.ARGUMENT, x, () -> x.doubt(0, 1, 0));
    check.no("nothing is covered", x.isCovered(0));
    check.is("none was added", x.doubt(0, 199, 199), 0);
  }

  private static CoatLine withThreeLots() {
    CoatLine x = Works.slit(50, 1);
    x.lot('n', 100, 999);
    x.coat(2, 200, 50);
    x.slit(2, 1);
    x.wind(0, 1, 4);
    x.wind(0, 2, 4);
    return x;
  }

  private static void doubtOfALot() {
    CoatLine x = withThreeLots();
    check.is("doubt", x.doubtAll(true, 2), 0);
    check.no("of lot 1", x.isCovered(0));
    check.yes("of lot 2", x.isCovered(1));
    check.is("doubt", x.doubtAll(true, 0), 1);
    check.yes("both of lot 0", x.isCovered(0));
    CoatLine y = withThreeLots();
    y.coat(2, 20, 50);
    y.slit(3, 1);
    y.wind(0, 3, 4);
    y.doubtAll(true, 2);
    check.yes("of another coil of the lot", y.isCovered(2));
  }

  private static void doubtOfBurrs() {
    CoatLine x = Works.coated(50);
    x.coat(1, 200, 50);
    x.slit(0, 1);
    x.slit(1, 1);
    x.slit(2, 1);
    x.wind(0, 1, 4);
    x.wind(0, 2, 4);
    check.is("burr of the first 'n'", x.burr(1), 1);
    check.is("burr of the second 'n'", x.burr(2), 2);
    x.doubtAll(false, 3);
    check.no("3 or more", x.isCovered(1));
    x.doubtAll(false, 2);
    check.yes("2 or more", x.isCovered(1));
    check.no("2 or more", x.isCovered(0));
    x.doubtAll(false, 1);
    check.yes("1 or more", x.isCovered(0));
    CoatLine y = Works.wound(50, 4);
    y.doubtAll(false, Integer.MAX_VALUE);
    check.no("the most", y.isCovered(0));
    check.is("0 or more", y.doubtAll(false, 0), 1);
    check.yes("0 or more", y.isCovered(0));
    CoatLine z = Works.coated(50);
    z.slit(1, 1);
    z.slit(0, 1);
    z.wind(1, 0, 4);
    z.doubtAll(false, 1);
    check.yes("a burr of 'p'", z.isCovered(0));
  }

  private static void doubtAllRefused() {
    CoatLine x = Works.wound(50, 4);
    check.refuses("lot 2", Works.INDEX, x, () -> x.doubtAll(true, 2));
    check.refuses("lot -1", Works.INDEX, x, () -> x.doubtAll(true, -1));
    check.refuses("burr -1", Works.ARGUMENT, x, () -> x.doubtAll(false, -1));
    check.no("nothing is covered", x.isCovered(0));
    check.is("a burr of 9 needs no lot", x.doubtAll(false, 9), 0);
  }

  private static void doubtsCoverLater() {
    CoatLine x = Works.slit(50, 1);
    x.doubt(0, 5, 5);
    x.doubtAll(true, 1);
    x.wind(0, 1, 4);
    x.wind(0, 1, 4);
    x.clear(1);
    x.wind(0, 1, 4);
    check.no("metres 0 to 3", x.isCovered(0));
    check.yes("metres 4 to 7", x.isCovered(1));
    check.no("metres 8 to 11", x.isCovered(2));
    x.clear(0);
    for (int cell = 0; cell < 3; cell++) {
      check.is("fill", x.fill(cell, 4), 60);
    }
    x.protocol(0, 1);
    for (int cell = 0; cell < 3; cell++) {
      x.form(cell, 0, cell);
    }
    x.pass(1);
    x.bounds(0, 0, 99);
    check.isLetter("covered by the lot as it was wound", x.sort(0), 'x');
    check.isLetter("covered by a metre as it was wound", x.sort(1), 'x');
    check.isLetter("wound behind the clearing", x.sort(2), 'a');
  }

  private static void atMostEight() {
    CoatLine x = Works.wound(50, 4);
    for (int number = 0; number < 7; number++) {
      check.is("doubt", x.doubt(0, 9, 9), number);
    }
    check.is("the eighth", x.doubtAll(false, 9), 7);
    check.refuses("a ninth", Works.STATE, x, () -> x.doubt(0, 0, 0));
    check.refuses("a ninth, the last one less", Works.ARGUMENT, x, () -> x.doubt(0, 1, 0));
    check.refuses("a ninth of no coil", Works.INDEX, x, () -> x.doubt(2, 0, 0));
    check.refuses("a ninth of a lot", Works.STATE, x, () -> x.doubtAll(true, 0));
    check.refuses("a ninth of no lot", Works.INDEX, x, () -> x.doubtAll(true, 2));
    check.refuses("a ninth of burrs", Works.STATE, x, () -> x.doubtAll(false, 0));
    check.refuses("a ninth of no burrs", Works.ARGUMENT, x, () -> x.doubtAll(false, -1));
    check.no("nothing is covered", x.isCovered(0));
    check.is("clear", x.clear(3), 0);
    check.refuses("cleared ones keep their numbers", Works.STATE, x, () -> x.doubt(0, 0, 0));
    x.fill(0, 4);
    x.protocol(0, 1);
    x.form(0, 0, 0);
    x.pass(1);
    check.isLetter("nor was it ever", x.sort(0), 'a');
  }

  private static void clearCounts() {
    CoatLine x = Works.wound(50, 4, 4, 4);
    x.doubt(0, 0, 4);
    x.doubt(0, 4, 8);
    x.doubtAll(false, 1);
    check.is("cell 0 alone", x.clear(0), 1);
    check.no("cell 0", x.isCovered(0));
    check.yes("cell 1", x.isCovered(1));
    check.is("none", x.clear(2), 0);
    check.is("cells 1 and 2", x.clear(1), 2);
    check.no("cell 1", x.isCovered(1));
    check.no("cell 2", x.isCovered(2));
  }

  private static void clearRefused() {
    CoatLine x = Works.wound(50, 4);
    x.doubt(0, 0, 0);
    check.refuses("doubt 1", Works.INDEX, x, () -> x.clear(1));
    check.refuses("doubt -1", Works.INDEX, x, () -> x.clear(-1));
    check.yes("covered still", x.isCovered(0));
    check.is("clear", x.clear(0), 1);
    check.refuses("cleared", Works.UNSUPPORTED, x, () -> x.clear(0));
  }

  private static void coveredRefused() {
    CoatLine x = Works.wound(50, 4);
    check.refuses("cell 1", Works.INDEX, x, () -> x.isCovered(1));
    check.refuses("cell -1", Works.INDEX, x, () -> x.isCovered(-1));
    check.refuses("no pack", Works.INDEX, x, () -> x.isRecalled(0));
  }

  private static void recalledPacks() {
    CoatLine x = Works.ready(50, 4, 4, 4, 4, 4, 4);
    x.bounds(0, 0, 99);
    for (int module = 0; module < 3; module++) {
      x.module(2, 'a');
    }
    x.pack(0, 1);
    x.pack(2, -1);
    check.no("none yet", x.isRecalled(0));
    x.doubt(0, 12, 12);
    check.yes("by cell 3", x.isRecalled(0));
    check.no("the other one", x.isRecalled(1));
    check.refuses("not driven", Works.UNSUPPORTED, x, () -> x.drive(0, 1, 1));
    check.is("the other one is", x.drive(1, 1, 1), 1);
    x.clear(0);
    check.no("cleared", x.isRecalled(0));
    check.is("driven", x.drive(0, 1, 1), 1);
    check.refuses("pack 2", Works.INDEX, x, () -> x.isRecalled(2));
    check.refuses("pack -1", Works.INDEX, x, () -> x.isRecalled(-1));
  }

  /** Two cells of one coil 'p', with so many marked metres between, and of two coils 'n'. */
  private static CoatLine apartByPositives(int between) {
    CoatLine x = Works.coated(50);
    x.coat(1, 200, 50);
    for (int metre = 0; metre < between; metre++) {
      x.mark(0, 4 + metre, 's');
    }
    x.slit(0, 1);
    x.slit(1, 1);
    x.slit(2, 1);
    x.wind(0, 1, 4);
    x.wind(0, 2, 4);
    return x;
  }

  private static void sistersByPositives() {
    CoatLine near = apartByPositives(4);
    check.is("metre", near.traced(1, true, 0), 8);
    check.yes("5 apart", near.isSister(0, 1));
    check.yes("the other way", near.isSister(1, 0));
    check.is("one sister", near.sisters(0), 1);
    check.is("the other way", near.sisters(1), 1);
    CoatLine far = apartByPositives(5);
    check.is("metre", far.traced(1, true, 0), 9);
    check.no("6 apart", far.isSister(0, 1));
    check.no("the other way", far.isSister(1, 0));
    check.is("no sister", far.sisters(0), 0);
    check.is("the other way", far.sisters(1), 0);
  }

  private static void sistersByNegatives() {
    for (int between = 4; between <= 5; between++) {
      CoatLine x = Works.coated(50);
      x.coat(0, 200, 50);
      for (int metre = 0; metre < between; metre++) {
        x.mark(1, 5 + metre, 's');
      }
      x.slit(0, 1);
      x.slit(2, 1);
      x.slit(1, 1);
      x.wind(0, 2, 4);
      x.wind(1, 2, 4);
      check.is("apart by " + (between + 1), x.isSister(0, 1) ? 1 : 0, between == 4 ? 1 : 0);
      check.is("apart by " + (between + 1), x.isSister(1, 0) ? 1 : 0, between == 4 ? 1 : 0);
      check.is("sisters", x.sisters(1), between == 4 ? 1 : 0);
    }
  }

  private static void sistersCounted() {
    CoatLine x = Works.wound(50, 3, 3, 3, 3);
    check.is("of the first", x.sisters(0), 2);
    check.is("of the second", x.sisters(1), 3);
    check.yes("6 to 2 is 4", x.isSister(0, 2));
    check.no("9 to 2 is 7, 12 to 3 is 9", x.isSister(0, 3));
    CoatLine y = Works.slit(50, 2);
    y.wind(0, 2, 4);
    y.wind(1, 3, 4);
    check.yes("of other ribbons of the coils", y.isSister(0, 1));
  }

  private static void sistersRefused() {
    CoatLine x = Works.wound(50, 4, 4);
    check.no("not its own", x.isSister(0, 0));
    check.refuses("cell 2", Works.INDEX, x, () -> x.sisters(2));
    check.refuses("cell -1", Works.INDEX, x, () -> x.sisters(-1));
    check.refuses("first 2", Works.INDEX, x, () -> x.isSister(2, 0));
    check.refuses("first -1", Works.INDEX, x, () -> x.isSister(-1, 0));
    check.refuses("second 2", Works.INDEX, x, () -> x.isSister(0, 2));
    check.refuses("second -1", Works.INDEX, x, () -> x.isSister(0, -1));
    check.refuses("both", Works.INDEX, x, () -> x.isSister(2, 2));
  }
}
