/** Edges of lots, coils, ribbons, and of what is wound of them. */
final class CoilEdgesTest {
  private static final Check check = new Check("CoilEdgesTest");

  public static void main(String[] args) {
    usedByMetresAndWeight();
    lastOfALot();
    driftOfMost();
    thinnestAndThickest();
    burrsByWear();
    wornByMetresOnly();
    stretchToTheEnd();
    oneMoreOfNegatives();
    longestLength();
    marksAtBothEnds();
    stretchesBetweenMarks();
    allMarked();
    ribbonsOfOneCoil();
    check.end();
  }

  private static void usedByMetresAndWeight() {
    int[][] cases = {{10, 10, 2}, {11, 90, 10}, {10, 90, 10}, {99, 10, 10}, {100, 10, 11},
        {101, 10, 11}, {109, 10, 11}, {110, 10, 12}, {200, 90, 181}};
    for (int[] one : cases) {
      CoatLine x = new CoatLine();
      x.lot('p', 100, 999);
      x.coat(0, one[0], one[1]);
      check.is(one[0] + " by " + one[1], 999 - x.left(0), one[2]);
    }
  }

  private static void lastOfALot() {
    for (int amount = 180; amount <= 182; amount++) {
      CoatLine x = new CoatLine();
      x.lot('p', 100, amount);
      if (amount < 181) {
        check.refuses("181 of " + amount, Works.UNSUPPORTED, x, () -> x.coat(0, 200, 90));
      } else {
        check.is("181 of " + amount, x.coat(0, 200, 90), 0);
        check.is("left of " + amount, x.left(0), amount - 181);
      }
    }
    CoatLine x = new CoatLine();
    x.lot('p', 100, 1);
    x.lot('p', 100, 2);
    check.refuses("the least coil of 1", Works.UNSUPPORTED, x, () -> x.coat(0, 10, 10));
    check.is("the least coil of 2", x.coat(1, 10, 10), 0);
  }

  private static void driftOfMost() {
    CoatLine x = new CoatLine();
    x.lot('p', 100, 999);
    x.drift(99);
    x.coat(0, 200, 10);
    int[][] weights = {{0, 10}, {98, 10}, {99, 11}, {197, 11}, {198, 12}, {199, 12}};
    for (int[] one : weights) {
      check.is("drift 99, metre " + one[0], x.weight(0, one[0]), one[1]);
    }
    x.drift(1);
    x.coat(0, 200, 90);
    check.is("drift 1 behind 200", x.weight(1, 0), 290);
    check.is("drift 1 behind 399", x.weight(1, 199), 489);
    for (int coil = 2; coil < 10; coil++) {
      x.coat(0, 200, 10);
    }
    check.is("the last metre of all", x.weight(9, 199), 2009);
    check.is("run by all", x.reset(), 2000);
  }

  private static void thinnestAndThickest() {
    CoatLine x = new CoatLine();
    x.lot('p', 100, 999);
    x.coat(0, 10, 10);
    x.coat(0, 10, 90);
    check.is("10", x.thickness(0, 0), 20);
    check.is("90", x.thickness(1, 9), 180);
    x.press(0, 100);
    x.press(1, 1);
    check.is("10, pressed", x.thickness(0, 9), 10);
    check.is("18000 by 101", x.thickness(1, 0), 178);
    x.press(0, 99);
    check.is("2000 by 199", x.thickness(0, 0), 10);
    x.press(0, 98);
    check.is("2000 by 198", x.thickness(0, 0), 10);
    x.press(0, 82);
    check.is("2000 by 182", x.thickness(0, 0), 10);
    x.press(0, 81);
    check.is("2000 by 181", x.thickness(0, 0), 11);
  }

  /** What is slit behind one or two coils of these metres has this burr. */
  private static void burrsByWear() {
    int[][] cases = {{10, 0, 0}, {199, 0, 0}, {200, 0, 1}, {189, 10, 0}, {190, 10, 1},
        {199, 200, 1}, {200, 200, 2}, {199, 199, 1}};
    for (int[] one : cases) {
      CoatLine x = new CoatLine();
      x.lot('p', 100, 999);
      x.coat(0, 10, 10);
      x.coat(0, one[0], 10);
      x.slit(1, 1);
      if (one[1] > 0) {
        x.coat(0, one[1], 10);
        x.slit(2, 1);
      }
      int ribbon = x.slit(0, 1);
      check.is("behind " + one[0] + " and " + one[1], x.burr(ribbon), one[2]);
      check.is("wear", x.sharpen(), one[0] + one[1] + 10);
    }
    CoatLine x = new CoatLine();
    x.lot('p', 100, 999);
    for (int coil = 0; coil < 10; coil++) {
      x.coat(0, 200, 10);
      x.slit(coil, 1);
      check.is("burr of coil " + coil, x.burr(coil), coil);
    }
    check.is("wear by all", x.sharpen(), 2000);
  }

  private static void wornByMetresOnly() {
    for (int ribbons = 1; ribbons <= 4; ribbons++) {
      CoatLine x = Works.coated(50);
      x.slit(0, ribbons);
      check.is("wear by a coil to " + ribbons, x.sharpen(), 200);
      check.is("burr of its last one", x.burr(ribbons - 1), 0);
    }
  }

  // Coil 0 'p' and coil 1 'n' have so many metres, and ribbons 0 and 1.
  private static CoatLine ofMetres(int positive, int negative) {
    CoatLine x = new CoatLine();
    x.lot('p', 100, 999);
    x.lot('n', 100, 999);
    x.coat(0, positive, 10);
    x.coat(1, negative, 10);
    return x;
  }

  private static void slitBoth(CoatLine x) {
    x.slit(0, 1);
    x.slit(1, 1);
  }

  private static void stretchToTheEnd() {
    CoatLine x = ofMetres(10, 50);
    slitBoth(x);
    check.refuses("11 of 10", Works.UNSUPPORTED, x, () -> x.wind(0, 1, 11));
    check.is("10 of 10", x.wind(0, 1, 10), 0);
    check.is("all of it", x.next(0), 10);
    check.refuses("2 of none", Works.UNSUPPORTED, x, () -> x.wind(0, 1, 2));
    CoatLine y = ofMetres(10, 50);
    slitBoth(y);
    y.wind(0, 1, 7);
    check.refuses("4 of 3", Works.UNSUPPORTED, y, () -> y.wind(0, 1, 4));
    check.is("3 of 3", y.wind(0, 1, 3), 1);
    check.is("all of it", y.next(0), 10);
    check.is("its last metre", y.traced(1, true, 2), 9);
    CoatLine z = ofMetres(10, 50);
    slitBoth(z);
    z.wind(0, 1, 9);
    check.refuses("2 of 1", Works.UNSUPPORTED, z, () -> z.wind(0, 1, 2));
    check.is("the one is not taken", z.next(0), 9);
  }

  private static void oneMoreOfNegatives() {
    CoatLine x = ofMetres(50, 10);
    slitBoth(x);
    check.refuses("11 of 10", Works.UNSUPPORTED, x, () -> x.wind(0, 1, 10));
    check.is("10 of 10", x.wind(0, 1, 9), 0);
    check.is("9 of 'p'", x.next(0), 9);
    check.is("all of 'n'", x.next(1), 10);
    check.is("the last one of 'n'", x.traced(0, false, 9), 1009);
    CoatLine y = ofMetres(50, 10);
    slitBoth(y);
    y.wind(0, 1, 6);
    check.refuses("4 of 3", Works.UNSUPPORTED, y, () -> y.wind(0, 1, 3));
    check.is("3 of 3", y.wind(0, 1, 2), 1);
    check.is("all of 'n'", y.next(1), 10);
  }

  private static void longestLength() {
    CoatLine x = ofMetres(40, 41);
    slitBoth(x);
    check.is("40, and 41", x.wind(0, 1, 40), 0);
    check.is("all of 'p'", x.next(0), 40);
    check.is("all of 'n'", x.next(1), 41);
    CoatLine y = ofMetres(40, 40);
    slitBoth(y);
    check.refuses("40, and 40", Works.UNSUPPORTED, y, () -> y.wind(0, 1, 40));
    CoatLine z = ofMetres(39, 41);
    slitBoth(z);
    check.refuses("39, and 41", Works.UNSUPPORTED, z, () -> z.wind(0, 1, 40));
  }

  private static void marksAtBothEnds() {
    for (int coil = 0; coil < 2; coil++) {
      int most = coil == 0 ? 8 : 7;
      CoatLine x = ofMetres(coil == 0 ? 10 : 50, coil == 1 ? 10 : 50);
      x.mark(coil, 0, 's');
      x.mark(coil, 9, 'b');
      slitBoth(x);
      check.refuses("9 of 8", Works.UNSUPPORTED, x, () -> x.wind(0, 1, most + 1));
      check.is("8 of 8", x.wind(0, 1, most), 0);
      check.is("behind the first mark", x.traced(0, coil == 0, 0), 1000 * coil + 1);
      check.is("up to the last mark", x.next(coil), 9);
      check.refuses("none behind it", Works.UNSUPPORTED, x, () -> x.wind(0, 1, 2));
    }
  }

  private static void stretchesBetweenMarks() {
    CoatLine x = ofMetres(12, 100);
    x.mark(0, 2, 's');
    x.mark(0, 6, 's');
    slitBoth(x);
    check.is("0 to 1", x.wind(0, 1, 2), 0);
    check.is("up to the mark", x.next(0), 2);
    check.is("3 to 5", x.wind(0, 1, 2), 1);
    check.is("3", x.traced(1, true, 0), 3);
    check.is("the one left of it is too short", x.wind(0, 1, 2), 2);
    check.is("7", x.traced(2, true, 0), 7);
    check.refuses("4 of 3", Works.UNSUPPORTED, x, () -> x.wind(0, 1, 4));
    check.is("9 to 11", x.wind(0, 1, 3), 3);
    check.is("all of it", x.next(0), 12);
    CoatLine y = ofMetres(12, 100);
    y.mark(0, 2, 's');
    y.mark(0, 6, 's');
    slitBoth(y);
    check.refuses("6 of 5", Works.UNSUPPORTED, y, () -> y.wind(0, 1, 6));
    check.is("4 of 5, 2 and 3 passed over", y.wind(0, 1, 4), 0);
    check.is("7", y.traced(0, true, 0), 7);
    check.refuses("what is passed over is lost", Works.UNSUPPORTED, y, () -> y.wind(0, 1, 2));
    check.is("next", y.next(0), 11);
  }

  private static void allMarked() {
    CoatLine x = ofMetres(10, 100);
    for (int metre = 0; metre < 10; metre += 2) {
      x.mark(0, metre, 'c');
    }
    slitBoth(x);
    check.refuses("each other one", Works.UNSUPPORTED, x, () -> x.wind(0, 1, 2));
    check.is("nothing taken", x.next(0), 0);
    CoatLine y = ofMetres(100, 10);
    for (int metre = 0; metre < 10; metre++) {
      y.mark(1, metre, 'c');
    }
    slitBoth(y);
    check.refuses("each one", Works.UNSUPPORTED, y, () -> y.wind(0, 1, 2));
    check.is("nothing taken of the other", y.next(0), 0);
  }

  /** Each ribbon of a coil has all its metres, and all its marks. */
  private static void ribbonsOfOneCoil() {
    CoatLine x = ofMetres(10, 200);
    x.mark(0, 0, 's');
    x.slit(0, 4);
    x.slit(1, 1);
    for (int ribbon = 0; ribbon < 4; ribbon++) {
      check.is("9 of ribbon " + ribbon, x.wind(ribbon, 4, 9), ribbon);
      check.is("first of ribbon " + ribbon, x.traced(ribbon, true, 0), 1);
      check.is("last of ribbon " + ribbon, x.traced(ribbon, true, 8), 9);
    }
    check.yes("sound", x.isSound());
  }
}
