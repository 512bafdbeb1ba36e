/** Edges of cells, from their winding to the hour that is the last one. */
final class CellEdgesTest {
  private static final Check check = new Check("CellEdgesTest");

  public static void main(String[] args) {
    dampByDew();
    shortByEachGap();
    sharpIsNeverShort();
    leastBase();
    greatestBase();
    resistanceWithoutASign();
    soaksToTheMost();
    soaksByEachStep();
    filledOnce();
    lastHour();
    plainThingsOfEachCell();
    check.end();
  }

  private static void dampByDew() {
    for (int dew = -60; dew <= 0; dew++) {
      CoatLine x = Works.slit(50, 1);
      x.dew(dew);
      x.wind(0, 1, 2);
      int damp = 0;
      for (int edge = -50; edge <= dew; edge += 10) {
        damp++;
      }
      check.is("damp by " + dew, x.cellAt(0, 'd'), damp);
      check.is("resistance by " + dew, x.cellAt(0, 'r'), 10 + damp);
    }
  }

  // Ribbons 0 to 4 'p' with burrs 0 to 4, and 5 to 9 'n' with burrs 5 to 9.
  private static CoatLine withBurrs() {
    CoatLine x = new CoatLine();
    x.lot('p', 100, 999);
    x.lot('n', 100, 999);
    for (int coil = 0; coil < 10; coil++) {
      x.coat(coil / 5, 200, 10);
      x.slit(coil, 1);
    }
    return x;
  }

  private static void shortByEachGap() {
    for (int gap = 0; gap <= 9; gap++) {
      CoatLine x = withBurrs();
      x.gap(gap);
      int cell = 0;
      for (int positive = 0; positive < 5; positive++) {
        for (int negative = 5; negative < 9; negative++) {
          x.wind(positive, negative, 2);
          boolean isDue = positive + negative > gap;
          String what = "burrs " + positive + " and " + negative + ", gap " + gap;
          check.is(what, x.isShort(cell) ? 1 : 0, isDue ? 1 : 0);
          int number = cell++;
          if (isDue) {
            check.refuses(what, Works.UNSUPPORTED, x, () -> x.fill(number, 1));
          } else {
            check.is(what, x.fill(number, 1), 15);
          }
        }
      }
    }
  }

  private static void sharpIsNeverShort() {
    CoatLine x = Works.slit(50, 1);
    x.gap(0);
    x.wind(0, 1, 2);
    check.no("0 above 0", x.isShort(0));
    CoatLine y = Works.coated(50);
    y.slit(0, 1);
    y.slit(1, 1);
    y.gap(0);
    y.wind(0, 1, 2);
    check.yes("1 above 0", y.isShort(0));
    y.gap(1);
    y.wind(0, 1, 2);
    check.no("1 above 1", y.isShort(1));
  }

  /** Lots of these strengths and coils of these weights, slit and wound to one cell. */
  private static CoatLine oneOf(int strength, int weight, int other, int otherWeight, int length) {
    CoatLine x = new CoatLine();
    x.lot('p', strength, 999);
    x.lot('n', other, 999);
    x.coat(0, 200, weight);
    x.coat(1, 200, otherWeight);
    x.slit(0, 1);
    x.slit(1, 1);
    x.wind(0, 1, length);
    return x;
  }

  private static void leastBase() {
    check.is("least of all", oneOf(50, 10, 150, 90, 2).cellAt(0, 'b'), 10);
    check.is("least of 'n'", oneOf(150, 90, 50, 10, 2).cellAt(0, 'b'), 10);
    check.is("26 by 51", oneOf(51, 13, 150, 90, 2).cellAt(0, 'b'), 13);
    check.is("26 by 57, cut", oneOf(57, 13, 150, 90, 2).cellAt(0, 'b'), 14);
    check.is("like ones", oneOf(77, 13, 77, 13, 2).cellAt(0, 'b'), 20);
  }

  private static void greatestBase() {
    check.is("without a drift", oneOf(150, 90, 150, 90, 40).cellAt(0, 'b'), 5400);
    CoatLine x = new CoatLine();
    x.lot('p', 150, 999);
    x.lot('n', 150, 999);
    x.drift(1);
    for (int coil = 0; coil < 8; coil++) {
      x.coat(coil / 4, 200, 10);
    }
    x.coat(0, 41, 90);
    x.coat(1, 41, 90);
    x.slit(8, 1);
    x.slit(9, 1);
    x.wind(0, 1, 40);
    // Weights of 'p' are 1690 to 1729, of 'n' more.
    check.is("with the most drift", x.cellAt(0, 'b'), (1690 + 1729) * 20 * 150 / 100);
  }

  private static void resistanceWithoutASign() {
    check.is("'p' thicker", oneOf(100, 60, 100, 50, 2).cellAt(0, 'r'), 12 + 20);
    check.is("'n' thicker", oneOf(100, 50, 100, 60, 2).cellAt(0, 'r'), 12 + 20);
    check.is("like ones", oneOf(100, 60, 100, 60, 2).cellAt(0, 'r'), 12);
    check.is("most apart", oneOf(100, 10, 100, 90, 2).cellAt(0, 'r'), 12 + 160);
    CoatLine x = new CoatLine();
    x.lot('p', 100, 999);
    x.lot('n', 100, 999);
    x.coat(1, 50, 50);
    x.reset();
    x.drift(2);
    x.coat(0, 50, 50);
    x.slit(0, 1);
    x.slit(1, 1);
    x.wind(1, 0, 2);
    check.is("metre 0", x.cellAt(0, 'r'), 12);
    x.wind(1, 0, 2);
    check.is("metre 2, 1 heavier", x.cellAt(1, 'r'), 12 + 2);
  }

  private static void soaksToTheMost() {
    int[][] cases = {{4, 19, 98}, {4, 20, 100}, {4, 21, 100}, {3, 27, 99}, {3, 28, 100},
        {2, 35, 100}, {2, 34, 98}, {1, 42, 99}, {1, 43, 100}, {1, 500, 100}};
    for (int[] one : cases) {
      CoatLine x = Works.wound(50, 4);
      x.fill(0, one[0]);
      x.pass(one[1]);
      check.is(one[0] + " steps, " + one[1] + " hours", x.cellAt(0, 'w'), one[2]);
      CoatLine y = Works.wound(50, 4);
      y.fill(0, one[0]);
      for (int hour = 0; hour < one[1] && hour < 100; hour++) {
        y.pass(1);
      }
      check.is(one[0] + " steps, hour by hour", y.cellAt(0, 'w'), one[2]);
    }
  }

  private static void soaksByEachStep() {
    for (int steps = 1; steps <= 4; steps++) {
      CoatLine x = Works.wound(50, 4);
      x.pass(100);
      check.is("dry ahead of it", x.cellAt(0, 'w'), 0);
      check.is(steps + " steps", x.fill(0, steps), 15 * steps);
      check.is("in the hour of filling", x.cellAt(0, 'w'), 15 * steps);
      x.pass(1);
      check.is("an hour behind", x.cellAt(0, 'w'), 15 * steps + 2);
    }
  }

  private static void filledOnce() {
    CoatLine x = Works.wound(50, 4);
    x.fill(0, 1);
    check.refuses("at once", Works.UNSUPPORTED, x, () -> x.fill(0, 1));
    x.pass(500);
    check.refuses("soaked", Works.UNSUPPORTED, x, () -> x.fill(0, 4));
    x.protocol(0, 1);
    x.form(0, 0, 0);
    check.refuses("formed", Works.UNSUPPORTED, x, () -> x.fill(0, 4));
    x.pass(1);
    check.refuses("ready", Works.UNSUPPORTED, x, () -> x.fill(0, 4));
  }

  private static void lastHour() {
    CoatLine x = Works.wound(50, 4, 4);
    for (int i = 0; i < 19; i++) {
      x.pass(500);
    }
    x.pass(498);
    x.fill(0, 4);
    check.is("one ahead of it", x.time(), 9998);
    check.refuses("2 more", Works.STATE, x, () -> x.pass(2));
    check.is("not soaked by it", x.cellAt(0, 'w'), 60);
    check.is("1 more", x.pass(1), 9999);
    check.is("soaked", x.cellAt(0, 'w'), 62);
    check.refuses("1 more again", Works.STATE, x, () -> x.pass(1));
    check.refuses("the most", Works.STATE, x, () -> x.pass(500));
    x.protocol(10, 20);
    check.is("free at the last hour", x.freeAt(0), 9999);
    check.is("ready behind it", x.form(0, 0, 0), 10019);
    check.is("taken behind it", x.freeAt(0), 10019);
    // It holds 200 - 20 - 1 - 2, and 1 less by a throughput of 100.
    check.is("hours at once", x.cellAt(0, 'i'), 176);
    check.isLetter("never ready", x.sort(0), '-');
    check.isReal("never ready", x.readyShare(), 0);
  }

  private static void plainThingsOfEachCell() {
    CoatLine x = Works.wound(50, 2, 3, 4);
    x.fill(1, 2);
    check.is("dry", x.cellAt(0, 'w'), 0);
    check.is("wet", x.cellAt(1, 'w'), 30);
    check.is("dry", x.cellAt(2, 'w'), 0);
    check.is("base", x.cellAt(0, 'b'), 100);
    check.is("base", x.cellAt(1, 'b'), 150);
    check.is("base", x.cellAt(2, 'b'), 200);
    for (int cell = 0; cell < 3; cell++) {
      check.is("hold", x.cellAt(cell, 'h'), x.cellAt(cell, 'b'));
      check.no("plated", x.isPlated(cell));
      check.no("short", x.isShort(cell));
      check.no("covered", x.isCovered(cell));
      check.isLetter("sort", x.sort(cell), '-');
    }
  }
}
