/** Promises 25 to 31: protocols, first charges, aging and sorting. */
final class ChargesTest {
  private static final Check check = new Check("ChargesTest");

  public static void main(String[] args) {
    protocolsAreNumbered();
    protocolsRefused();
    stepsAreCounted();
    stepsRefused();
    filmIsTakenOff();
    hoursGoIn();
    hoursGoOut();
    firstHourNeverEndsAStep();
    stepsFollowOneAnother();
    throughputWears();
    heatIsCut();
    coldPlates();
    coldOutDoesNotPlate();
    holdIsOneAtLeast();
    formNeedsWetness();
    formRefused();
    channelsQueue();
    longerProtocolLater();
    givenBackSums();
    agingTakesOut();
    agingByBurrs();
    agingShrinks();
    agingInPiecesIsTheSame();
    boundsSet();
    boundsRefused();
    sortsByBounds();
    sortX();
    check.end();
  }

  private static void cell(String what, CoatLine x, int cell, String letters, int... want) {
    for (int i = 0; i < want.length; i++) {
      check.is(what + " " + letters.charAt(i), x.cellAt(cell, letters.charAt(i)), want[i]);
    }
  }

  private static void protocolsAreNumbered() {
    CoatLine x = new CoatLine();
    check.is("least", x.protocol(-30, 1), 0);
    check.is("most", x.protocol(30, 20), 1);
    check.is("third", x.protocol(0, 5), 2);
    check.is("fourth", x.protocol(1, 5), 3);
    check.refuses("fifth", Works.STATE, x, () -> x.protocol(1, 5));
    check.refuses("fifth, out of range", Works.ARGUMENT, x, () -> x.protocol(31, 5));
  }

  private static void protocolsRefused() {
    CoatLine x = new CoatLine();
    check.refuses("current 31", Works.ARGUMENT, x, () -> x.protocol(31, 5));
    check.refuses("current -31", Works.ARGUMENT, x, () -> x.protocol(-31, 5));
    check.refuses("0 hours", Works.ARGUMENT, x, () -> x.protocol(5, 0));
    check.refuses("21 hours", Works.ARGUMENT, x, () -> x.protocol(5, 21));
    check.is("none was added", x.protocol(5, 5), 0);
  }

  private static void stepsAreCounted() {
    CoatLine x = new CoatLine();
    x.protocol(1, 1);
    x.protocol(2, 2);
    for (int steps = 2; steps <= 6; steps++) {
      check.is("step", x.step(0, 30, 20), steps);
    }
    check.refuses("seventh", Works.STATE, x, () -> x.step(0, 1, 1));
    check.refuses("seventh, out of range", Works.ARGUMENT, x, () -> x.step(0, 1, 21));
    check.is("of the other one", x.step(1, -30, 1), 2);
  }

  private static void stepsRefused() {
    CoatLine x = new CoatLine();
    x.protocol(1, 1);
    check.refuses("protocol 1", Works.INDEX, x, () -> x.step(1, 31, 1));
    check.refuses("protocol -1", Works.INDEX, x, () -> x.step(-1, 1, 1));
    check.refuses("current 31", Works.ARGUMENT, x, () -> x.step(0, 31, 1));
    check.refuses("current -31", Works.ARGUMENT, x, () -> x.step(0, -31, 1));
    check.refuses("0 hours", Works.ARGUMENT, x, () -> x.step(0, 1, 0));
    check.refuses("21 hours", Works.ARGUMENT, x, () -> x.step(0, 1, 21));
    check.is("none was added", x.step(0, 1, 1), 2);
  }

  private static void filmIsTakenOff() {
    CoatLine x = Works.wound(50, 4, 5);
    x.protocol(0, 1);
    x.fill(0, 4);
    x.fill(1, 3);
    x.form(0, 0, 0);
    cell("wet by 60", x, 0, "hb", 200 - 20 - 2 - 2, 200);
    x.pass(7);
    x.form(1, 0, 0);
    cell("wet by 59", x, 1, "hb", 250 - 25 - 2 - 2, 250);
    CoatLine z = Works.wound(50, 4);
    z.protocol(0, 1);
    z.fill(0, 3);
    z.pass(18);
    z.form(0, 0, 0);
    cell("wet by 81", z, 0, "hb", 200 - 20 - 0 - 2, 200);
    CoatLine y = Works.slit(11, 1);
    y.dew(0);
    y.wind(0, 1, 9);
    y.fill(0, 4);
    y.pass(11);
    y.protocol(0, 1);
    y.form(0, 0, 0);
    cell("wet by 82, damp 6, base 99", y, 0, "hb", 99 - 9 - 0 - 6, 99);
  }

  private static void hoursGoIn() {
    CoatLine x = Works.wet(50, 4);
    x.protocol(30, 20);
    check.is("for all hours of it", x.form(0, 0, 0), 40);
    cell("in", x, 0, "hirtu", 177, 177, 13, 198, 177);
    check.no("not plated", x.isPlated(0));
    check.is("nothing back", x.givenBack(), 0);
  }

  private static void hoursGoOut() {
    CoatLine x = Works.wet(50, 4);
    x.protocol(10, 5);
    x.step(0, -30, 3);
    x.form(0, 0, 0);
    // The heat by hours: 6, 11, 15, 18, 20; then 69, 106, and 138 with a resistance of 13.
    cell("out", x, 0, "hirtu", 177, 0, 13, 138, 100);
    check.is("30 and 20 back", x.givenBack(), 50);
  }

  private static void firstHourNeverEndsAStep() {
    CoatLine x = Works.wet(50, 4, 4);
    x.protocol(-10, 20);
    x.form(0, 0, 0);
    cell("two hours of an empty cell", x, 0, "itu", 0, 11, 0);
    check.is("nothing back", x.givenBack(), 0);
    x.protocol(30, 1);
    x.step(1, 0, 20);
    x.form(1, 1, 1);
    cell("two hours without a current", x, 1, "itu", 30, 31, 30);
  }

  private static void stepsFollowOneAnother() {
    CoatLine x = Works.wet(50, 4);
    x.protocol(30, 20);
    x.step(0, -30, 1);
    x.step(0, 1, 1);
    check.is("hours of all steps", x.form(0, 0, 2), 42);
    // Behind the first step: 177 of 177, resistance 13, heat 198; u 207 and 208 then.
    cell("three steps", x, 0, "hirtu", 176, 148, 14, 156, 208);
    check.is("30 back", x.givenBack(), 30);
  }

  private static void throughputWears() {
    CoatLine x = Works.wet(50, 4);
    x.protocol(25, 4);
    x.form(0, 0, 0);
    cell("at 100", x, 0, "hiru", 177, 100, 13, 100);
    CoatLine y = Works.wet(50, 4);
    y.protocol(11, 9);
    y.form(0, 0, 0);
    cell("at 99", y, 0, "hiru", 178, 99, 12, 99);
    CoatLine z = Works.wet(50, 9);
    z.protocol(11, 10);
    z.step(0, 30, 3);
    z.form(0, 0, 0);
    cell("at 110, and at 200", z, 0, "hiru", 401, 200, 14, 200);
  }

  private static void heatIsCut() {
    CoatLine x = Works.slit(50, 1);
    x.dew(-30);
    x.wind(0, 1, 4);
    x.fill(0, 4);
    x.protocol(26, 1);
    x.form(0, 0, 0);
    cell("8788 by 200", x, 0, "rt", 13, 43);
  }

  private static void coldPlates() {
    int[][] cases = {{-1, 30, 1, 175}, {-1, 21, 1, 175}, {-1, 20, 1, 176}, {-1, 11, 1, 176},
        {-1, 10, 1, 177}, {-1, 1, 1, 177}, {-5, 30, 2, 175}, {-6, 30, 2, 172}, {-20, 1, 20, 158}};
    for (int[] one : cases) {
      CoatLine x = Works.wet(50, 4);
      check.is("room", x.room(one[0]), 20);
      x.protocol(one[1], one[2]);
      x.form(0, 0, 0);
      String what = "room " + one[0] + ", current " + one[1] + ", hours " + one[2];
      check.yes(what + " plates", x.isPlated(0));
      check.is(what + " leaves", x.cellAt(0, 'h'), one[3]);
    }
    CoatLine x = Works.wet(50, 4);
    x.room(0);
    x.protocol(30, 1);
    x.form(0, 0, 0);
    check.no("at 0 it is not plated", x.isPlated(0));
    check.is("at 0 it holds", x.cellAt(0, 'h'), 178);
  }

  private static void coldOutDoesNotPlate() {
    CoatLine x = Works.wet(50, 4);
    x.room(-20);
    x.protocol(-30, 20);
    x.step(0, 0, 20);
    x.form(0, 0, 0);
    check.no("plated", x.isPlated(0));
    check.is("holds", x.cellAt(0, 'h'), 178);
  }

  private static void holdIsOneAtLeast() {
    CoatLine x = Works.wet(10, 2);
    x.protocol(30, 20);
    x.step(0, 30, 20);
    x.step(0, 30, 20);
    x.room(-20);
    x.form(0, 0, 0);
    // It holds 13 then 10, which brings what is in it back to 10, and nothing goes in again.
    cell("plated in six hours", x, 0, "bhiu", 20, 1, 1, 13);
    check.yes("sound", x.isSound());
  }

  private static void formNeedsWetness() {
    CoatLine x = Works.wound(50, 4, 4);
    x.protocol(0, 1);
    check.refuses("not filled", Works.UNSUPPORTED, x, () -> x.form(0, 0, 0));
    x.fill(0, 2);
    x.fill(1, 1);
    x.pass(9);
    check.refuses("wet by 48", Works.UNSUPPORTED, x, () -> x.form(0, 0, 0));
    check.is("the channel is free", x.freeAt(0), 9);
    check.is("nothing was formed", x.cellAt(0, 'h'), 200);
    x.pass(1);
    check.is("wet by 50", x.form(0, 0, 0), 11);
    check.refuses("wet by 35", Works.UNSUPPORTED, x, () -> x.form(1, 0, 3));
    x.pass(7);
    check.refuses("wet by 49", Works.UNSUPPORTED, x, () -> x.form(1, 0, 3));
    x.pass(1);
    check.is("wet by 51", x.form(1, 0, 3), 19);
  }

  private static void formRefused() {
    CoatLine x = Works.wet(50, 4, 4);
    x.protocol(10, 5);
    check.refuses("cell 2", Works.INDEX, x, () -> x.form(2, 0, 0));
    check.refuses("cell -1", Works.INDEX, x, () -> x.form(-1, 0, 0));
    check.refuses("protocol 1", Works.INDEX, x, () -> x.form(0, 1, 0));
    check.refuses("protocol -1", Works.INDEX, x, () -> x.form(0, -1, 0));
    check.refuses("channel 4", Works.INDEX, x, () -> x.form(0, 0, 4));
    check.refuses("channel -1", Works.INDEX, x, () -> x.form(0, 0, -1));
    x.form(0, 0, 3);
    check.refuses("formed", Works.UNSUPPORTED, x, () -> x.form(0, 0, 0));
    check.refuses("formed, no such channel", Works.INDEX, x, () -> x.form(0, 0, 4));
    cell("as it was", x, 0, "hi", 178, 50);
    x.doubtAll(true, 0);
    check.refuses("covered", Works.UNSUPPORTED, x, () -> x.form(1, 0, 0));
    x.clear(0);
    check.is("no longer covered", x.form(1, 0, 0), 25);
  }

  private static void channelsQueue() {
    CoatLine x = Works.wet(50, 4, 4, 4, 4);
    x.protocol(10, 5);
    check.is("at once", x.form(0, 0, 1), 25);
    check.is("behind it", x.form(1, 0, 1), 30);
    check.is("on another one", x.form(2, 0, 0), 25);
    check.is("taken", x.freeAt(1), 30);
    check.is("free", x.freeAt(2), 20);
    x.pass(9);
    check.is("still taken", x.freeAt(1), 30);
    check.is("free by now", x.freeAt(0), 29);
    check.isLetter("ahead of its hour", x.sort(1), '-');
    x.pass(1);
    check.is("free as its hour comes", x.freeAt(1), 30);
    check.isLetter("ready as its hour comes", x.sort(1), 'a');
    x.pass(10);
    check.is("from now on", x.form(3, 0, 1), 45);
    check.refuses("channel 4", Works.INDEX, x, () -> x.freeAt(4));
    check.refuses("channel -1", Works.INDEX, x, () -> x.freeAt(-1));
  }

  private static void longerProtocolLater() {
    CoatLine x = Works.wet(50, 4, 4);
    x.protocol(10, 5);
    check.is("5 hours", x.form(0, 0, 0), 25);
    x.step(0, 10, 7);
    check.is("12 hours", x.form(1, 0, 1), 32);
    x.pass(5);
    check.isLetter("ready as it was told", x.sort(0), 'a');
    check.isLetter("not yet", x.sort(1), '-');
  }

  private static void givenBackSums() {
    CoatLine x = Works.wet(50, 4, 5);
    x.protocol(10, 5);
    x.step(0, -7, 3);
    x.step(0, 1, 1);
    x.step(0, -30, 20);
    x.form(0, 0, 0);
    check.is("21 and 30", x.givenBack(), 51);
    x.form(1, 0, 0);
    check.is("of both", x.givenBack(), 102);
    x.pass(500);
    check.is("not by aging", x.givenBack(), 102);
  }

  private static void agingTakesOut() {
    CoatLine x = Works.wet(50, 4);
    x.protocol(10, 5);
    x.form(0, 0, 0);
    x.pass(5);
    cell("ready at 25", x, 0, "hi", 178, 50);
    x.pass(23);
    cell("at 48", x, 0, "hi", 178, 50);
    x.pass(1);
    cell("at 49", x, 0, "hi", 178, 49);
    x.pass(47);
    cell("at 96", x, 0, "hi", 178, 48);
    x.pass(1);
    cell("at 97", x, 0, "hi", 178, 47);
    x.pass(500);
    x.pass(500);
    x.pass(143);
    cell("at 1240", x, 0, "hi", 173, 0);
    x.pass(500);
    cell("no less than nothing", x, 0, "hiru", 171, 0, 12, 50);
    check.yes("sound", x.isSound());
    CoatLine y = Works.wet(50, 4);
    y.protocol(10, 5);
    y.form(0, 0, 0);
    y.pass(28);
    cell("23 hours behind 25", y, 0, "i", 50);
    y.pass(1);
    cell("24 hours behind 25", y, 0, "i", 49);
  }

  private static void agingByBurrs() {
    int[][] lossesByBurrs = {{0, 0, 1}, {1, 0, 2}, {1, 1, 2}, {1, 2, 3}, {2, 2, 3}, {3, 2, 4}};
    for (int[] one : lossesByBurrs) {
      CoatLine x = Works.coated(50);
      x.gap(9);
      for (int coil = 2; coil < 2 + one[0] + one[1]; coil++) {
        x.coat(0, 200, 50);
      }
      int waste = 2;
      for (int i = 0; i < one[0]; i++) {
        x.slit(waste++, 1);
      }
      int positive = x.slit(0, 1);
      x.sharpen();
      for (int i = 0; i < one[1]; i++) {
        x.slit(waste++, 1);
      }
      int negative = x.slit(1, 1);
      check.is("burr of 'p'", x.burr(positive), one[0]);
      check.is("burr of 'n'", x.burr(negative), one[1]);
      x.wind(positive, negative, 4);
      x.fill(0, 4);
      x.protocol(10, 5);
      x.form(0, 0, 0);
      x.pass(5);
      x.pass(48);
      check.is("two days, burrs " + one[0] + " " + one[1], x.cellAt(0, 'i'), 50 - 2 * one[2]);
    }
  }

  private static void agingShrinks() {
    CoatLine x = Works.wet(50, 4);
    x.protocol(30, 20);
    x.form(0, 0, 0);
    x.pass(20);
    cell("ready at 40", x, 0, "hi", 177, 177);
    x.pass(239);
    cell("at 279", x, 0, "hi", 177, 168);
    x.pass(1);
    cell("at 280", x, 0, "hi", 176, 167);
    x.pass(480);
    cell("at 760", x, 0, "hir", 174, 147, 13);
  }

  private static void agingInPiecesIsTheSame() {
    CoatLine whole = Works.wet(50, 4, 5, 6);
    CoatLine pieces = Works.wet(50, 4, 5, 6);
    for (CoatLine x : new CoatLine[] {whole, pieces}) {
      x.protocol(30, 20);
      for (int cell = 0; cell < 3; cell++) {
        x.form(cell, 0, cell % 2);
      }
    }
    whole.pass(500);
    for (int i = 0; i < 100; i++) {
      pieces.pass(5);
    }
    check.is("the same", pieces.checksum(), whole.checksum());
  }

  private static void boundsSet() {
    CoatLine x = new CoatLine();
    check.is("first one before", x.bounds(0, 0, 0), 100);
    check.is("the most", x.bounds(Integer.MAX_VALUE, Integer.MAX_VALUE, 99), 0);
    check.is("again", x.bounds(7, 3, 5), Integer.MAX_VALUE);
  }

  private static void boundsRefused() {
    CoatLine x = new CoatLine();
    x.bounds(50, 40, 30);
    check.refuses("first -1", Works.ARGUMENT, x, () -> x.bounds(-1, -2, 5));
    check.refuses("second -1", Works.ARGUMENT, x, () -> x.bounds(5, -1, 5));
    check.refuses("second above", Works.ARGUMENT, x, () -> x.bounds(5, 6, 5));
    check.refuses("limit -1", Works.ARGUMENT, x, () -> x.bounds(5, 5, -1));
    check.refuses("limit 100", Works.ARGUMENT, x, () -> x.bounds(5, 5, 100));
    check.is("as it was", x.bounds(9, 9, 9), 50);
  }

  private static void sortsByBounds() {
    CoatLine x = Works.ready(50, 4);
    cell("what is sorted", x, 0, "hr", 178, 12);
    check.isLetter("as at first", x.sort(0), 'a');
    Object[][] cases = {{178, 178, 12, 'a'}, {178, 178, 11, 'b'}, {179, 178, 99, 'b'},
        {179, 179, 99, 'c'}, {0, 0, 0, 'b'}, {178, 0, 99, 'a'}, {1000, 179, 0, 'c'}};
    for (Object[] one : cases) {
      x.bounds((Integer) one[0], (Integer) one[1], (Integer) one[2]);
      String what = "bounds " + one[0] + " " + one[1] + " " + one[2];
      check.isLetter(what, x.sort(0), (Character) one[3]);
    }
    check.refuses("cell 1", Works.INDEX, x, () -> x.sort(1));
    check.refuses("cell -1", Works.INDEX, x, () -> x.sort(-1));
    int[][] bases = {{90, 14, 9, 100}, {100, 14, 8, 99}, {100, 17, 4, 60}, {99, 17, 4, 59}};
    char[] sorts = {'a', 'b', 'b', 'c'};
    for (int i = 0; i < sorts.length; i++) {
      CoatLine y = oneReady(bases[i][0], bases[i][1], bases[i][2]);
      check.is("hold of case " + i, y.cellAt(0, 'h'), bases[i][3]);
      check.isLetter("by 100 and 60, case " + i, y.sort(0), sorts[i]);
    }
    CoatLine z = Works.slit(50, 1);
    z.dew(-10);
    z.wind(0, 1, 4);
    z.dew(-20);
    z.wind(0, 1, 4);
    for (int cell = 0; cell < 2; cell++) {
      z.fill(cell, 4);
    }
    z.protocol(0, 1);
    z.form(0, 0, 0);
    z.form(1, 0, 1);
    z.pass(1);
    check.isLetter("resistance 15 by a limit of 14", z.sort(0), 'b');
    check.isLetter("resistance 14 by a limit of 14", z.sort(1), 'a');
  }

  /** A ready cell whose 'p' is of this strength and weight, and whose 'n' is the greater. */
  private static CoatLine oneReady(int strength, int weight, int length) {
    CoatLine x = new CoatLine();
    x.lot('p', strength, 999);
    x.lot('n', 150, 999);
    x.coat(0, 50, weight);
    x.coat(1, 50, weight);
    x.slit(0, 1);
    x.slit(1, 1);
    x.wind(0, 1, length);
    x.fill(0, 4);
    x.pass(20);
    x.protocol(0, 1);
    x.form(0, 0, 0);
    x.pass(1);
    return x;
  }

  private static void sortX() {
    CoatLine x = Works.wet(50, 4, 4, 4);
    check.isLetter("not formed", x.sort(0), '-');
    x.room(-20);
    x.protocol(10, 1);
    x.form(0, 0, 0);
    check.isLetter("plated, not ready", x.sort(0), '-');
    x.room(20);
    x.form(1, 0, 1);
    x.form(2, 0, 2);
    x.doubt(0, 4, 4);
    check.isLetter("covered, not ready", x.sort(1), '-');
    x.pass(1);
    check.isLetter("plated", x.sort(0), 'x');
    check.isLetter("covered", x.sort(1), 'x');
    check.isLetter("neither", x.sort(2), 'a');
    x.clear(0);
    check.isLetter("ever covered", x.sort(1), 'x');
    check.isLetter("never covered", x.sort(2), 'a');
    CoatLine y = Works.ready(50, 4);
    y.doubt(0, 0, 0);
    y.clear(0);
    check.isLetter("the first one, ever covered", y.sort(0), 'x');
  }
}
