/** Edges of hours, first charges, aging and sorting. */
final class ChargeEdgesTest {
  private static final Check check = new Check("ChargeEdgesTest");

  public static void main(String[] args) {
    filmByWetness();
    filmByBase();
    filmLeavesOne();
    hundredsOfThroughput();
    fullToTheLast();
    emptyToTheLast();
    hoursOfAStep();
    heatByTens();
    quarterIsCut();
    coldByCurrents();
    holdOfOneStays();
    wetAsItIsTold();
    takenFromItsHourOn();
    fourChannels();
    mostHours();
    waitingIsNotAging();
    agingByHours();
    agingTheMost();
    burrsBegun();
    emptyLosesNothing();
    readyInItsHour();
    sortedAtTheBounds();
    check.end();
  }

  private static void cell(String what, CoatLine x, int cell, String letters, int... want) {
    for (int i = 0; i < want.length; i++) {
      check.is(what + " " + letters.charAt(i), x.cellAt(cell, letters.charAt(i)), want[i]);
    }
  }

  /** A cell with a base of 200 and a damp of 2, filled in so many steps, so many hours ago. */
  private static CoatLine filled(int steps, int hours) {
    CoatLine x = Works.wound(50, 4);
    x.fill(0, steps);
    if (hours > 0) {
      x.pass(hours);
    }
    return x;
  }

  private static void filmByWetness() {
    int[][] cases = {{2, 10, 50, 2}, {3, 3, 51, 2}, {3, 7, 59, 2}, {4, 0, 60, 2}, {3, 8, 61, 1},
        {3, 17, 79, 1}, {4, 10, 80, 1}, {3, 18, 81, 0}, {3, 27, 99, 0}, {4, 20, 100, 0}};
    for (int[] one : cases) {
      CoatLine x = filled(one[0], one[1]);
      check.is("wet", x.cellAt(0, 'w'), one[2]);
      x.protocol(0, 1);
      x.form(0, 0, 0);
      check.is("film of one wet by " + one[2], 200 - 20 - 2 - x.cellAt(0, 'h'), one[3]);
    }
  }

  /** One cell 'p' of this strength and weight, 2 metres long, dry as the dew can make it. */
  private static CoatLine small(int strength, int weight, int dew) {
    CoatLine x = new CoatLine();
    x.lot('p', strength, 999);
    x.lot('n', 150, 999);
    x.coat(0, 100, weight);
    x.coat(1, 100, weight);
    x.slit(0, 1);
    x.slit(1, 1);
    x.dew(dew);
    x.wind(0, 1, 2);
    return x;
  }

  private static void filmByBase() {
    int[][] cases = {{100, 10, 20, 2}, {95, 10, 19, 1}, {145, 10, 29, 2}, {150, 10, 30, 3},
        {50, 10, 10, 1}, {55, 10, 11, 1}};
    for (int[] one : cases) {
      CoatLine x = small(one[0], one[1], -60);
      check.is("base", x.cellAt(0, 'b'), one[2]);
      x.fill(0, 4);
      x.pass(20);
      x.protocol(0, 1);
      x.form(0, 0, 0);
      check.is("film of " + one[2], one[2] - x.cellAt(0, 'h'), one[3]);
    }
  }

  private static void filmLeavesOne() {
    int[][] cases = {{0, 0, 1}, {10, 0, 2}, {0, -60, 7}};
    for (int[] one : cases) {
      CoatLine x = small(50, 10, one[1]);
      x.fill(0, 4);
      if (one[0] > 0) {
        x.pass(one[0]);
      }
      x.protocol(0, 1);
      x.form(0, 0, 0);
      check.is("left of 10, wet by " + x.cellAt(0, 'w'), x.cellAt(0, 'h'), one[2]);
    }
  }

  private static void hundredsOfThroughput() {
    int[][] cases = {{10, 10, 100, 1}, {1, 20, 20, 0}, {20, 5, 100, 1}, {11, 9, 99, 0},
        {18, 11, 198, 1}, {20, 10, 200, 2}, {25, 8, 200, 2}, {30, 10, 300, 3}, {27, 11, 297, 2},
        {23, 13, 299, 2}};
    for (int[] one : cases) {
      CoatLine x = Works.wet(50, 10);
      x.protocol(one[0], one[1]);
      x.form(0, 0, 0);
      cell(one[0] + " in " + one[1] + " hours", x, 0, "hiru", 500 - 50 - 2 - one[3], one[2],
          12 + one[3], one[2]);
    }
    CoatLine x = Works.wet(50, 10);
    x.protocol(25, 2);
    x.step(0, -25, 2);
    x.form(0, 0, 0);
    cell("what goes out counts too", x, 0, "hiru", 500 - 50 - 2 - 1, 0, 13, 100);
  }

  private static void fullToTheLast() {
    for (int last = 27; last <= 29; last++) {
      CoatLine x = Works.wet(50, 4);
      x.protocol(25, 6);
      x.step(0, last, 1);
      x.form(0, 0, 0);
      // It holds 178, and 177 from a throughput of 100 on, with 150 in it behind six hours.
      cell("27 left, " + last + " told", x, 0, "hiu", 177, 177, 177);
    }
    CoatLine x = Works.wet(50, 4);
    x.protocol(25, 6);
    x.step(0, 26, 1);
    x.form(0, 0, 0);
    cell("27 left, 26 told", x, 0, "hiu", 177, 176, 176);
  }

  private static void emptyToTheLast() {
    int[][] cases = {{-9, 1, 9}, {-10, 0, 10}, {-11, 0, 10}, {-30, 0, 10}, {-1, 9, 1}};
    for (int[] one : cases) {
      CoatLine x = Works.wet(50, 4);
      x.protocol(10, 1);
      x.step(0, one[0], 1);
      x.form(0, 0, 0);
      check.is("10 in it, " + one[0] + " told", x.cellAt(0, 'i'), one[1]);
      check.is("given back", x.givenBack(), one[2]);
      check.is("throughput", x.cellAt(0, 'u'), 10 + one[2]);
    }
  }

  /** The heat tells how many hours there were. */
  private static void hoursOfAStep() {
    // By 30: 54, then 54 + 54 - 13, then 95 + 54 - 23.
    int[] heats = {54, 95, 126};
    for (int hours = 1; hours <= 3; hours++) {
      CoatLine x = Works.wet(50, 4);
      x.protocol(-30, hours);
      x.form(0, 0, 0);
      check.is("of an empty cell, " + hours, x.cellAt(0, 't'), heats[Math.min(hours, 2) - 1]);
      CoatLine y = Works.wet(50, 4);
      y.protocol(30, hours);
      y.form(0, 0, 0);
      check.is("going in, " + hours, y.cellAt(0, 't'), heats[hours - 1]);
      CoatLine z = Works.wet(10, 3);
      z.protocol(30, hours);
      z.form(0, 0, 0);
      cell("25 in it by one hour, " + hours, z, 0, "hit", 25, 25,
          heats[Math.min(hours, 2) - 1]);
    }
    CoatLine x = Works.wet(50, 4);
    x.protocol(-30, 1);
    x.step(0, -30, 1);
    x.step(0, -30, 20);
    x.form(0, 0, 0);
    check.is("each step has its first hour: 4 hours", x.cellAt(0, 't'), 126 + 54 - 31);
  }

  private static void heatByTens() {
    // With a resistance of 13: 12 brings a heat of 9, 13 one of 10, 17 one of 18, 18 one of 21.
    int[][] cases = {{12, 9, -1, 1}, {13, 10, -1, 0}, {13, 10, -2, 1}, {17, 18, -1, 0},
        {17, 18, -2, 1}, {18, 21, -2, 0}, {18, 21, -3, 1}, {0, 0, 0, 0}, {0, 0, -1, 1}};
    for (int[] one : cases) {
      CoatLine x = cold(one[0], one[1], one[2]);
      int hold = x.cellAt(0, 'h');
      x.drive(0, 5, 1);
      check.is("heat " + one[1] + ", room " + one[2], x.isPlated(0) ? 1 : 0, one[3]);
      check.is("holds less", hold - x.cellAt(0, 'h'), one[3]);
      CoatLine y = cold(one[0], one[1], one[2]);
      y.drive(0, -5, 1);
      y.drive(0, 0, 1);
      y.rest(0, 1);
      check.no("not by what goes out, or nothing", y.isPlated(0));
    }
  }

  private static CoatLine cold(int current, int heat, int room) {
    CoatLine x = Works.slit(50, 1);
    x.dew(-30);
    x.wind(0, 1, 8);
    x.wind(0, 1, 8);
    Works.packWound(x, 2);
    x.drive(0, current, 1);
    check.is("heat by " + current, x.cellAt(0, 't'), heat);
    x.room(room);
    return x;
  }

  private static void quarterIsCut() {
    // 8 by a current of 12 and a resistance of 12; then 6, 5, 4, 3, and so on.
    int[] heats = {6, 5, 4, 3, 3, 3};
    CoatLine x = Works.packed(8, 8);
    x.drive(0, 12, 1);
    check.is("1728 by 200, cut", x.cellAt(0, 't'), 8);
    for (int heat : heats) {
      check.is("a quarter less, cut", x.rest(0, 1), heat);
    }
    check.is("3 stays", x.rest(0, 40), 3);
    int[][] cases = {{4, 0}, {5, 1}, {-4, 0}, {-5, 1}, {30, 54}, {-30, 54}, {0, 0}};
    for (int[] one : cases) {
      CoatLine y = Works.wet(50, 4);
      y.protocol(one[0], 1);
      y.form(0, 0, 0);
      check.is("heat by " + one[0], y.cellAt(0, 't'), one[1]);
    }
  }

  private static void coldByCurrents() {
    int[] currents = {1, 9, 10, 11, 19, 20, 21, 29, 30};
    int[] less = {1, 1, 1, 2, 2, 2, 3, 3, 3};
    for (int i = 0; i < currents.length; i++) {
      CoatLine x = Works.packed(8, 8);
      x.room(-1);
      x.drive(0, currents[i], 1);
      check.is("less by " + currents[i], 358 - x.cellAt(0, 'h'), less[i]);
    }
    CoatLine x = Works.wet(50, 4);
    x.protocol(30, 20);
    x.step(0, 0, 20);
    x.room(-20);
    x.form(0, 0, 0);
    // Heats ahead of each hour in: 0, 54, 95, 126, 149, 170, 186; it is full in the last one.
    cell("plated as it is full, too", x, 0, "hirtu", 178 - 7 * 3 - 1, 156, 13, 112, 159);
    check.yes("plated", x.isPlated(0));
    check.yes("sound", x.isSound());
  }

  private static void holdOfOneStays() {
    CoatLine x = new CoatLine();
    x.lot('p', 50, 999);
    x.lot('n', 150, 999);
    x.coat(0, 100, 10);
    x.coat(1, 100, 10);
    x.slit(0, 1);
    x.slit(1, 1);
    x.dew(0);
    for (int cell = 0; cell < 3; cell++) {
      x.wind(0, 1, 2);
      x.fill(cell, 4);
    }
    x.protocol(30, 1);
    for (int cell = 0; cell < 3; cell++) {
      x.form(cell, 0, cell);
      cell("holds 1", x, cell, "hiu", 1, 1, 1);
    }
    x.pass(1);
    x.bounds(0, 0, 99);
    x.module(2, 'a');
    x.pack(0, -1);
    check.is("cool", x.rest(0, 40), 3);
    x.room(-20);
    x.drive(0, -1, 1);
    x.drive(0, 1, 1);
    cell("plated", x, 0, "hiu", 1, 1, 3);
    check.yes("plated", x.isPlated(0));
    x.room(20);
    for (int i = 0; i < 48; i++) {
      x.drive(0, -1, 1);
      x.drive(0, 1, 1);
    }
    cell("throughput of 99", x, 0, "hiru", 1, 1, 16, 99);
    x.drive(0, -1, 1);
    cell("throughput of 100", x, 0, "hiru", 1, 0, 17, 100);
    x.pass(500);
    x.pass(500);
    cell("aged", x, 2, "hi", 1, 0);
    check.yes("sound", x.isSound());
    check.isReal("mean", x.meanHold(), 1);
  }

  private static void wetAsItIsTold() {
    for (int steps = 1; steps <= 4; steps++) {
      CoatLine x = filled(steps, 0);
      x.protocol(0, 1);
      int missing = 50 - 15 * steps;
      int hours = missing > 0 ? (missing + 1) / 2 : 0;
      for (int hour = 0; hour < hours; hour++) {
        check.refuses("wet by less", Works.UNSUPPORTED, x, () -> x.form(0, 0, 0));
        x.pass(1);
      }
      check.is(steps + " steps, behind " + hours + " hours", x.form(0, 0, 0), hours + 1);
    }
    CoatLine x = Works.wound(50, 4, 4);
    x.fill(0, 4);
    x.fill(1, 2);
    x.protocol(0, 20);
    x.form(0, 0, 0);
    check.refuses("wet by then alone", Works.UNSUPPORTED, x, () -> x.form(1, 0, 0));
    check.is("taken as it was", x.freeAt(0), 20);
  }

  private static void takenFromItsHourOn() {
    for (int wait = 4; wait <= 6; wait++) {
      CoatLine x = Works.wet(50, 4, 4);
      x.protocol(10, 5);
      x.form(0, 0, 3);
      x.pass(wait);
      int from = wait < 5 ? 25 : 20 + wait;
      check.is("free behind " + wait, x.freeAt(3), from);
      check.is("ready behind " + wait, x.form(1, 0, 3), from + 5);
      check.is("taken behind " + wait, x.freeAt(3), from + 5);
    }
  }

  private static void fourChannels() {
    CoatLine x = Works.wet(50, 4, 4, 4, 4, 4);
    x.protocol(10, 5);
    for (int channel = 0; channel < 4; channel++) {
      check.is("channel " + channel, x.form(channel, 0, channel), 25);
    }
    for (int channel = 0; channel < 4; channel++) {
      check.is("channel " + channel, x.freeAt(channel), 25);
    }
    check.is("a fifth cell", x.form(4, 0, 3), 30);
    check.is("the others", x.freeAt(2), 25);
    check.is("its own", x.freeAt(3), 30);
  }

  private static void mostHours() {
    CoatLine x = Works.wet(50, 4, 4);
    x.protocol(30, 20);
    for (int steps = 2; steps <= 6; steps++) {
      x.step(0, steps % 2 == 0 ? -30 : 30, 20);
    }
    check.is("6 by 20", x.form(0, 0, 0), 140);
    check.is("6 by 20 behind it", x.form(1, 0, 0), 260);
    x.pass(119);
    check.isLetter("at 139", x.sort(0), '-');
    x.pass(1);
    check.isLetter("at 140", x.sort(0), 'b');
    check.isLetter("at 140, the other", x.sort(1), '-');
  }

  private static void waitingIsNotAging() {
    CoatLine x = Works.wet(50, 4, 4, 4);
    x.protocol(10, 5);
    for (int steps = 2; steps <= 6; steps++) {
      x.step(0, 0, 20);
    }
    x.form(0, 0, 0);
    check.is("behind the other one", x.form(1, 0, 0), 230);
    x.pass(210);
    cell("ready now", x, 1, "hi", 178, 50);
    // The first one is ready at 125, so 105 hours behind.
    cell("ready for long", x, 0, "hi", 178, 46);
    cell("never formed", x, 2, "hi", 200, 0);
    x.pass(23);
    cell("23 hours", x, 1, "hi", 178, 50);
    x.pass(1);
    cell("24 hours", x, 1, "hi", 178, 49);
    x.pass(500);
    cell("never formed", x, 2, "hi", 200, 0);
  }

  /** A cell with 50 in it that is ready at 25, as so many hours from 20 on leave it. */
  private static void agingByHours() {
    int[][] cases = {{4, 178, 50}, {5, 178, 50}, {28, 178, 50}, {29, 178, 49}, {52, 178, 49},
        {53, 178, 48}, {244, 178, 41}, {245, 177, 40}, {484, 177, 31}, {485, 176, 30}};
    for (int[] one : cases) {
      CoatLine x = Works.wet(50, 4);
      x.protocol(10, 5);
      x.form(0, 0, 0);
      x.pass(one[0]);
      cell("at once, " + one[0], x, 0, "hi", one[1], one[2]);
      CoatLine y = Works.wet(50, 4);
      y.protocol(10, 5);
      y.form(0, 0, 0);
      for (int hour = 0; hour < one[0]; hour++) {
        y.pass(1);
      }
      cell("hour by hour, " + one[0], y, 0, "hi", one[1], one[2]);
    }
  }

  private static void agingTheMost() {
    CoatLine x = Works.ready(50, 4);
    while (x.time() < 9500) {
      x.pass(499);
    }
    x.pass(9999 - x.time());
    // Ready at 21: 9978 hours, so 41 times 240.
    cell("at the last hour", x, 0, "hir", 178 - 41, 0, 12);
  }

  /** Slits so many coils, then the one 'n', then more of them, and then the one 'p'. */
  private static CoatLine withBurrs(int before, int between) {
    CoatLine x = Works.coated(50);
    x.gap(9);
    for (int coil = 2; coil < 2 + before + between; coil++) {
      x.coat(0, 200, 10);
    }
    for (int coil = 2; coil < 2 + before; coil++) {
      x.slit(coil, 1);
    }
    int negative = x.slit(1, 1);
    for (int coil = 2 + before; coil < 2 + before + between; coil++) {
      x.slit(coil, 1);
    }
    int positive = x.slit(0, 1);
    check.is("burr of 'n'", x.burr(negative), before);
    check.is("burr of 'p'", x.burr(positive), before + 1 + between);
    x.wind(positive, negative, 4);
    return x;
  }

  private static void burrsBegun() {
    int[] losses = {1, 2, 2, 3, 3, 4, 4, 5, 5, 6};
    for (int burrs = 1; burrs <= 9; burrs++) {
      int before = burrs == 9 ? 1 : 0;
      CoatLine x = withBurrs(before, burrs - 1 - 2 * before);
      x.fill(0, 4);
      x.pass(20);
      x.protocol(10, 5);
      x.form(0, 0, 0);
      x.pass(28);
      check.is("23 hours, burrs " + burrs, x.cellAt(0, 'i'), 50);
      x.pass(1);
      check.is("24 hours, burrs " + burrs, x.cellAt(0, 'i'), 50 - losses[burrs]);
      x.pass(48);
      check.is("72 hours, burrs " + burrs, x.cellAt(0, 'i'), 50 - 3 * losses[burrs]);
      x.pass(480);
      int left = Math.max(0, 50 - 23 * losses[burrs]);
      check.is("23 days, burrs " + burrs, x.cellAt(0, 'i'), left);
    }
  }

  private static void emptyLosesNothing() {
    CoatLine x = Works.wet(50, 4, 4);
    x.protocol(1, 1);
    x.protocol(2, 1);
    x.form(0, 0, 0);
    x.form(1, 1, 1);
    x.pass(25);
    cell("1 less 1", x, 0, "i", 0);
    cell("2 less 1", x, 1, "i", 1);
    x.pass(24);
    cell("0 less 1", x, 0, "i", 0);
    cell("1 less 1", x, 1, "i", 0);
    x.pass(500);
    cell("0 less many", x, 1, "i", 0);
    check.yes("sound", x.isSound());
  }

  private static void readyInItsHour() {
    CoatLine x = Works.wet(50, 4, 4);
    x.protocol(10, 5);
    x.form(0, 0, 0);
    x.pass(4);
    check.isLetter("at 24", x.sort(0), '-');
    check.isReal("share at 24", x.readyShare(), 0);
    x.pass(1);
    check.isLetter("at 25", x.sort(0), 'a');
    check.isReal("share at 25", x.readyShare(), 0.5);
  }

  private static void sortedAtTheBounds() {
    CoatLine x = Works.ready(50, 4);
    int hold = 178;
    int resistance = 12;
    for (int first = hold - 1; first <= hold + 1; first++) {
      for (int second = hold - 1; second <= first; second++) {
        for (int limit = resistance - 1; limit <= resistance + 1; limit++) {
          x.bounds(first, second, limit);
          boolean isA = first <= hold && limit >= resistance;
          char due = isA ? 'a' : second <= hold ? 'b' : 'c';
          check.isLetter("bounds " + first + " " + second + " " + limit, x.sort(0), due);
        }
      }
    }
  }
}
