/** Edges of doubts and sisters, metre by metre. */
final class DoubtEdgesTest {
  private static final Check check = new Check("DoubtEdgesTest");

  public static void main(String[] args) {
    eachMetreAlone();
    eachRange();
    firstAndLastMetre();
    metresOfNoCell();
    burrsOfSoMany();
    lotWithoutCoils();
    coveredOnceMore();
    eachWayIsClosed();
    everCovered();
    eightAndNoMore();
    sistersByMetres();
    sistersOfOtherCoils();
    check.end();
  }

  // Coil 0: cell 0 has 10 to 13, cell 1 has 20 to 21; coil 1: 0 to 4, and 5 to 7.
  private static CoatLine twoCells() {
    CoatLine x = Works.coated(50);
    for (int metre = 0; metre < 10; metre++) {
      x.mark(0, metre, 's');
    }
    for (int metre = 14; metre < 20; metre++) {
      x.mark(0, metre, 'c');
    }
    x.slit(0, 1);
    x.slit(1, 1);
    x.wind(0, 1, 4);
    x.wind(0, 1, 2);
    check.is("first of cell 0", x.traced(0, true, 0), 10);
    check.is("first of cell 1", x.traced(1, true, 0), 20);
    return x;
  }

  private static boolean has(int cell, int coil, int metre) {
    if (coil == 0) {
      return cell == 0 ? metre >= 10 && metre <= 13 : metre >= 20 && metre <= 21;
    }
    return cell == 0 ? metre >= 0 && metre <= 4 : metre >= 5 && metre <= 7;
  }

  private static void eachMetreAlone() {
    for (int coil = 0; coil < 2; coil++) {
      CoatLine x = twoCells();
      for (int metre = 0; metre < 8; metre++) {
        oneMetre(x, coil, metre, metre);
      }
      CoatLine y = twoCells();
      for (int metre = 8; metre < 16; metre++) {
        oneMetre(y, coil, metre, metre - 8);
      }
      CoatLine z = twoCells();
      for (int metre = 16; metre < 24; metre++) {
        oneMetre(z, coil, metre, metre - 16);
      }
    }
  }

  private static void oneMetre(CoatLine x, int coil, int metre, int number) {
    check.is("doubt", x.doubt(coil, metre, metre), number);
    int covered = 0;
    for (int cell = 0; cell < 2; cell++) {
      boolean isDue = has(cell, coil, metre);
      covered += isDue ? 1 : 0;
      String what = "cell " + cell + " by metre " + metre + " of coil " + coil;
      check.is(what, x.isCovered(cell) ? 1 : 0, isDue ? 1 : 0);
    }
    check.is("cleared", x.clear(number), covered);
  }

  private static void eachRange() {
    for (int from = 8; from <= 23; from++) {
      for (int to = from; to <= 23; to++) {
        CoatLine x = twoCells();
        x.doubt(0, from, to);
        for (int cell = 0; cell < 2; cell++) {
          boolean isDue = false;
          for (int metre = from; metre <= to; metre++) {
            isDue |= has(cell, 0, metre);
          }
          String what = "cell " + cell + " by " + from + " to " + to;
          check.is(what, x.isCovered(cell) ? 1 : 0, isDue ? 1 : 0);
        }
      }
    }
  }

  private static void firstAndLastMetre() {
    CoatLine x = Works.coated(50);
    x.coat(0, 10, 50);
    x.slit(2, 1);
    x.slit(1, 1);
    x.wind(0, 1, 10);
    check.is("the last metre", x.doubt(2, 9, 9), 0);
    check.yes("covers", x.isCovered(0));
    check.is("clear", x.clear(0), 1);
    check.is("the first metre", x.doubt(2, 0, 0), 1);
    check.yes("covers", x.isCovered(0));
    check.refuses("behind the last one", Works.INDEX, x, () -> x.doubt(2, 10, 10));
    check.refuses("up to behind it", Works.INDEX, x, () -> x.doubt(2, 9, 10));
    check.refuses("from ahead of the first", Works.INDEX, x, () -> x.doubt(2, -1, 9));
    check.is("all of them", x.doubt(2, 0, 9), 2);
    check.is("the first one was covered twice", x.clear(1), 0);
    check.is("and now once", x.clear(2), 1);
  }

  private static void metresOfNoCell() {
    CoatLine x = twoCells();
    x.doubt(0, 0, 9);
    x.doubt(0, 14, 19);
    x.doubt(0, 22, 199);
    x.doubt(1, 8, 199);
    for (int cell = 0; cell < 2; cell++) {
      check.no("cell " + cell, x.isCovered(cell));
      check.is("fill", x.fill(cell, 1), 15);
    }
    x.wind(0, 1, 2);
    check.yes("one of them later", x.isCovered(2));
    check.refuses("not filled", Works.UNSUPPORTED, x, () -> x.fill(2, 1));
  }

  private static void burrsOfSoMany() {
    // Ribbons 0 to 2 with burrs 0 to 2, and 3 'n' with 3.
    CoatLine x = new CoatLine();
    x.lot('p', 100, 999);
    x.lot('n', 100, 999);
    for (int coil = 0; coil < 4; coil++) {
      x.coat(coil / 3, 200, 50);
    }
    x.coat(1, 200, 50);
    for (int coil = 0; coil < 4; coil++) {
      x.slit(coil, 1);
    }
    x.sharpen();
    x.slit(4, 1);
    for (int ribbon = 0; ribbon < 3; ribbon++) {
      x.wind(ribbon, 4, 4);
    }
    x.wind(0, 3, 4);
    int[] most = {0, 1, 2, 3};
    for (int burr = 0; burr <= 4; burr++) {
      check.is("doubt", x.doubtAll(false, burr), burr);
      int covered = 0;
      for (int cell = 0; cell < 4; cell++) {
        boolean isDue = most[cell] >= burr;
        covered += isDue ? 1 : 0;
        String what = "cell " + cell + ", burr " + burr;
        check.is(what, x.isCovered(cell) ? 1 : 0, isDue ? 1 : 0);
      }
      check.is("cleared", x.clear(burr), covered);
    }
  }

  private static void lotWithoutCoils() {
    CoatLine x = Works.wound(50, 4);
    x.lot('p', 100, 5);
    check.is("of a lot without coils", x.doubtAll(true, 2), 0);
    check.no("covers none", x.isCovered(0));
    check.is("cleared", x.clear(0), 0);
    check.is("of the other lots", x.doubtAll(true, 1), 1);
    check.yes("covers", x.isCovered(0));
    check.refuses("of one behind the last", Works.INDEX, x, () -> x.doubtAll(true, 3));
  }

  private static void coveredOnceMore() {
    CoatLine x = twoCells();
    x.doubt(0, 10, 10);
    x.doubt(0, 10, 10);
    x.doubtAll(true, 0);
    check.is("the second one", x.clear(1), 0);
    check.is("the lot, cell 1 alone", x.clear(2), 1);
    check.yes("still covered", x.isCovered(0));
    check.no("no longer", x.isCovered(1));
    check.is("the last one", x.clear(0), 1);
    check.no("no longer", x.isCovered(0));
    check.refuses("cleared", Works.UNSUPPORTED, x, () -> x.clear(0));
    check.refuses("no such doubt", Works.INDEX, x, () -> x.clear(3));
  }

  /** A covered cell is not filled, formed, put into a module or a pack, nor is its pack driven. */
  private static void eachWayIsClosed() {
    CoatLine x = Works.wound(50, 4, 4);
    x.protocol(0, 1);
    x.doubt(0, 0, 0);
    check.refuses("not filled", Works.UNSUPPORTED, x, () -> x.fill(0, 4));
    check.is("the other one is", x.fill(1, 4), 60);
    x.clear(0);
    check.is("filled", x.fill(0, 4), 60);
    x.doubt(0, 0, 0);
    check.refuses("not formed", Works.UNSUPPORTED, x, () -> x.form(0, 0, 0));
    check.is("the channel is free", x.freeAt(0), 0);
    check.is("the other one is", x.form(1, 0, 0), 1);
    x.clear(1);
    check.is("formed", x.form(0, 0, 0), 2);
    CoatLine y = Works.ready(50, 4, 4);
    y.doubt(1, 9, 9);
    check.refuses("not put into a module", Works.ELEMENT, y, () -> y.module(2, 'a'));
    CoatLine z = Works.ready(50, 4, 4);
    z.module(2, 'a');
    z.doubt(1, 9, 9);
    check.refuses("not put into a pack", Works.UNSUPPORTED, z, () -> z.pack(0, -1));
    z.clear(0);
    check.is("put into a pack", z.pack(0, -1), 0);
    z.doubt(1, 9, 9);
    check.refuses("not driven", Works.UNSUPPORTED, z, () -> z.drive(0, 1, 1));
    z.clear(1);
    check.is("driven", z.drive(0, 1, 1), 1);
    check.isLetter("of the sort x all the same", z.sort(1), 'x');
  }

  private static void everCovered() {
    CoatLine x = Works.ready(50, 4, 4, 4);
    check.isLetter("ahead of a doubt", x.sort(0), 'a');
    x.doubt(0, 4, 4);
    x.clear(0);
    check.isLetter("the one", x.sort(1), 'x');
    check.isLetter("not its sisters", x.sort(0), 'a');
    check.isLetter("not its sisters", x.sort(2), 'a');
    check.is("a module of the others", x.module(2, 'a'), 0);
    check.is("the first", x.cellOf(0, 0), 0);
    check.is("the second", x.cellOf(0, 1), 2);
    CoatLine y = Works.slit(50, 1);
    y.doubt(0, 0, 3);
    y.clear(0);
    y.wind(0, 1, 4);
    check.no("cleared ahead of its winding", y.isCovered(0));
    y.fill(0, 4);
    y.protocol(0, 1);
    y.form(0, 0, 0);
    y.pass(1);
    check.isLetter("never covered", y.sort(0), 'a');
  }

  private static void eightAndNoMore() {
    CoatLine x = twoCells();
    for (int number = 0; number < 8; number++) {
      check.is("doubt", number % 2 == 0 ? x.doubt(0, 0, 9) : x.doubtAll(false, 9), number);
    }
    check.refuses("of metres", Works.STATE, x, () -> x.doubt(0, 0, 199));
    check.refuses("of a lot", Works.STATE, x, () -> x.doubtAll(true, 0));
    check.refuses("of burrs", Works.STATE, x, () -> x.doubtAll(false, 0));
    for (int cell = 0; cell < 2; cell++) {
      check.no("covers none", x.isCovered(cell));
    }
    check.is("the eighth is cleared", x.clear(7), 0);
    check.refuses("no ninth", Works.INDEX, x, () -> x.clear(8));
  }

  /** Cells of one ribbon 'p', and each of its own coil 'n'. */
  private static void sistersByMetres() {
    for (int between = 0; between <= 8; between++) {
      CoatLine x = Works.coated(50);
      x.coat(1, 200, 50);
      for (int metre = 0; metre < between; metre++) {
        x.mark(0, 2 + metre, 'b');
      }
      x.slit(0, 1);
      x.slit(1, 1);
      x.slit(2, 1);
      x.wind(0, 1, 2);
      x.wind(0, 2, 2);
      int apart = between + 1;
      check.is("metre", x.traced(1, true, 0), 1 + apart);
      int due = apart <= 5 ? 1 : 0;
      check.is("apart by " + apart, x.isSister(0, 1) ? 1 : 0, due);
      check.is("the other way, " + apart, x.isSister(1, 0) ? 1 : 0, due);
      check.is("sisters of 0, " + apart, x.sisters(0), due);
      check.is("sisters of 1, " + apart, x.sisters(1), due);
      check.no("not its own", x.isSister(1, 1));
    }
  }

  private static void sistersOfOtherCoils() {
    CoatLine x = Works.coated(50);
    x.coat(0, 200, 50);
    x.coat(1, 200, 50);
    x.slit(0, 2);
    x.slit(1, 2);
    x.slit(2, 1);
    x.slit(3, 1);
    x.wind(0, 2, 4);
    x.wind(4, 5, 4);
    check.no("like metres of other coils of the lots", x.isSister(0, 1));
    x.wind(1, 5, 4);
    check.yes("like metres of another ribbon 'p'", x.isSister(0, 2));
    check.yes("next metres of the one 'n'", x.isSister(1, 2));
    x.wind(4, 3, 4);
    check.yes("like metres of another ribbon 'n'", x.isSister(0, 3));
    int[] sisters = {2, 2, 2, 2};
    for (int cell = 0; cell < 4; cell++) {
      check.is("sisters of " + cell, x.sisters(cell), sisters[cell]);
    }
  }
}
