/** Promises 6 to 14: coils and ribbons. */
final class CoilsTest {
  private static final Check check = new Check("CoilsTest");

  public static void main(String[] args) {
    coatRefused();
    coatUsesAllOfALot();
    coatAtMostTen();
    weightOfNoMetre();
    marksAreReturned();
    marksRefused();
    pressAndThickness();
    pressRefused();
    thicknessRefused();
    slitNumbersRibbons();
    slitRefused();
    slitAtMostSixteen();
    knifeWears();
    nextOfARibbon();
    check.end();
  }

  private static void coatRefused() {
    CoatLine x = new CoatLine();
    x.lot('p', 100, 999);
    check.refuses("no lot", Works.INDEX, x, () -> x.coat(1, 9, 9));
    check.refuses("lot -1", Works.INDEX, x, () -> x.coat(-1, 20, 20));
    check.refuses("9 metres", Works.ARGUMENT, x, () -> x.coat(0, 9, 20));
    check.refuses("201 metres", Works.ARGUMENT, x, () -> x.coat(0, 201, 20));
    check.refuses("weight 9", Works.ARGUMENT, x, () -> x.coat(0, 20, 9));
    check.refuses("weight 91", Works.ARGUMENT, x, () -> x.coat(0, 20, 91));
    check.refuses("no coil", Works.INDEX, x, () -> x.weight(0, 0));
    check.is("nothing was used", x.left(0), 999);
    check.is("nothing was run", x.reset(), 0);
    check.is("least", x.coat(0, 10, 10), 0);
    check.is("10 by 10 use 2", x.left(0), 997);
    check.is("most", x.coat(0, 200, 90), 1);
    check.is("200 by 90 use 181", x.left(0), 816);
  }

  private static void coatUsesAllOfALot() {
    CoatLine x = new CoatLine();
    x.lot('p', 100, 11);
    x.lot('p', 100, 10);
    check.refuses("11 of 10", Works.UNSUPPORTED, x, () -> x.coat(1, 20, 50));
    check.is("left as it was", x.left(1), 10);
    check.is("11 of 11", x.coat(0, 20, 50), 0);
    check.is("nothing left", x.left(0), 0);
    check.refuses("nothing", Works.UNSUPPORTED, x, () -> x.coat(0, 10, 10));
    check.refuses("out of range first", Works.ARGUMENT, x, () -> x.coat(0, 10, 9));
    check.is("run by what was coated", x.reset(), 20);
  }

  private static void coatAtMostTen() {
    CoatLine x = new CoatLine();
    x.lot('p', 100, 21);
    for (int number = 0; number < 10; number++) {
      check.is("coil", x.coat(0, 10, 10), number);
    }
    check.refuses("eleventh, not as much", Works.UNSUPPORTED, x, () -> x.coat(0, 10, 10));
    x.lot('p', 100, 999);
    check.refuses("eleventh", Works.STATE, x, () -> x.coat(1, 10, 10));
    check.refuses("eleventh out of range", Works.ARGUMENT, x, () -> x.coat(1, 10, 91));
    check.refuses("eleventh of no lot", Works.INDEX, x, () -> x.coat(2, 10, 10));
    check.is("nothing was used", x.left(1), 999);
    check.is("nothing was run", x.reset(), 100);
    check.is("the last one", x.weight(9, 9), 10);
    check.refuses("no eleventh", Works.INDEX, x, () -> x.weight(10, 0));
  }

  private static void weightOfNoMetre() {
    CoatLine x = Works.coated(50);
    check.is("weight 0", x.weight(0, 0), 50);
    check.is("weight 199", x.weight(1, 199), 50);
    check.refuses("metre -1", Works.INDEX, x, () -> x.weight(0, -1));
    check.refuses("metre 200", Works.INDEX, x, () -> x.weight(0, 200));
    check.refuses("coil -1", Works.INDEX, x, () -> x.weight(-1, 0));
    check.refuses("coil 2", Works.INDEX, x, () -> x.weight(2, 0));
    x.coat(0, 30, 10);
    check.is("metre 29 of 30", x.weight(2, 29), 10);
    check.refuses("metre 30 of 30", Works.INDEX, x, () -> x.weight(2, 30));
  }

  private static void marksAreReturned() {
    CoatLine x = Works.coated(50);
    check.isLetter("first", x.mark(0, 7, 's'), '-');
    check.isLetter("second", x.mark(0, 7, 'c'), 's');
    check.isLetter("third", x.mark(0, 7, 'b'), 'c');
    check.isLetter("none", x.mark(0, 7, '-'), 'b');
    check.isLetter("again", x.mark(0, 7, 's'), '-');
    check.isLetter("another metre", x.mark(0, 8, 's'), '-');
    check.isLetter("another coil", x.mark(1, 7, 's'), '-');
  }

  private static void marksRefused() {
    CoatLine x = Works.coated(50);
    x.mark(0, 3, 'c');
    check.refuses("no such mark", Works.ARGUMENT, x, () -> x.mark(0, 3, 'z'));
    check.refuses("S", Works.ARGUMENT, x, () -> x.mark(0, 3, 'S'));
    check.refuses("coil 2", Works.INDEX, x, () -> x.mark(2, 3, 'z'));
    check.refuses("coil -1", Works.INDEX, x, () -> x.mark(-1, 3, 's'));
    check.refuses("metre 200", Works.INDEX, x, () -> x.mark(0, 200, 'z'));
    check.refuses("metre -1", Works.INDEX, x, () -> x.mark(0, -1, 's'));
    check.isLetter("as it was", x.mark(0, 3, 'c'), 'c');
    x.slit(0, 1);
    check.refuses("slit", Works.UNSUPPORTED, x, () -> x.mark(0, 3, '-'));
    check.refuses("slit, no such mark", Works.ARGUMENT, x, () -> x.mark(0, 3, 'z'));
    check.refuses("slit, no such metre", Works.INDEX, x, () -> x.mark(0, 200, 's'));
    check.isLetter("the other coil is not slit", x.mark(1, 3, 's'), '-');
    x.slit(1, 1);
    x.wind(0, 1, 3);
    x.wind(0, 1, 3);
    check.is("its mark is still there", x.traced(1, true, 0), 4);
  }

  private static void pressAndThickness() {
    CoatLine x = Works.coated(50);
    check.is("not pressed", x.thickness(0, 0), 100);
    check.is("press", x.press(0, 50), 0);
    check.is("50 by 200 by 150", x.thickness(0, 199), 66);
    check.is("press again", x.press(0, 100), 50);
    check.is("50 by 200 by 200", x.thickness(0, 0), 50);
    check.is("the other one", x.thickness(1, 0), 100);
    check.is("back", x.press(0, 0), 100);
    check.is("as at first", x.thickness(0, 0), 100);
    x.drift(1);
    x.reset();
    x.coat(0, 10, 33);
    x.press(2, 1);
    check.is("33 by 200 by 101", x.thickness(2, 0), 65);
    check.is("34 by 200 by 101", x.thickness(2, 1), 67);
  }

  private static void pressRefused() {
    CoatLine x = Works.coated(50);
    x.press(0, 30);
    check.refuses("-1", Works.ARGUMENT, x, () -> x.press(0, -1));
    check.refuses("101", Works.ARGUMENT, x, () -> x.press(0, 101));
    check.refuses("coil 2", Works.INDEX, x, () -> x.press(2, 101));
    check.refuses("coil -1", Works.INDEX, x, () -> x.press(-1, 1));
    check.is("as it was", x.press(0, 40), 30);
    x.slit(0, 1);
    check.refuses("slit", Works.UNSUPPORTED, x, () -> x.press(0, 1));
    check.refuses("slit, out of range", Works.ARGUMENT, x, () -> x.press(0, 101));
    check.is("thickness as it was", x.thickness(0, 0), 71);
  }

  private static void thicknessRefused() {
    CoatLine x = Works.coated(50);
    check.refuses("coil 2", Works.INDEX, x, () -> x.thickness(2, 0));
    check.refuses("coil -1", Works.INDEX, x, () -> x.thickness(-1, 0));
    check.refuses("metre 200", Works.INDEX, x, () -> x.thickness(0, 200));
    check.refuses("metre -1", Works.INDEX, x, () -> x.thickness(0, -1));
  }

  private static void slitNumbersRibbons() {
    CoatLine x = Works.coated(50);
    check.is("first", x.slit(1, 4), 0);
    check.is("second", x.slit(0, 2), 4);
    x.coat(0, 10, 10);
    check.is("third", x.slit(2, 1), 6);
    check.is("next of the last one", x.next(6), 0);
    check.refuses("no eighth", Works.INDEX, x, () -> x.next(7));
    check.is("ribbon 5 is 'p', 0 is 'n'", x.wind(5, 0, 2), 0);
    check.is("of coil 0", x.traced(0, true, 1), 1);
    check.is("of coil 1", x.traced(0, false, 2), 1002);
  }

  private static void slitRefused() {
    CoatLine x = Works.coated(50);
    check.refuses("coil 2", Works.INDEX, x, () -> x.slit(2, 0));
    check.refuses("coil -1", Works.INDEX, x, () -> x.slit(-1, 1));
    check.refuses("0 ribbons", Works.ARGUMENT, x, () -> x.slit(0, 0));
    check.refuses("5 ribbons", Works.ARGUMENT, x, () -> x.slit(0, 5));
    check.is("not slit by them", x.slit(0, 1), 0);
    check.refuses("slit", Works.UNSUPPORTED, x, () -> x.slit(0, 1));
    check.refuses("slit, out of range", Works.ARGUMENT, x, () -> x.slit(0, 5));
    check.is("wear of the one", x.sharpen(), 200);
  }

  private static void slitAtMostSixteen() {
    CoatLine x = new CoatLine();
    x.lot('p', 100, 999);
    for (int coil = 0; coil < 6; coil++) {
      x.coat(0, 10, 10);
    }
    x.slit(0, 4);
    x.slit(1, 4);
    x.slit(2, 4);
    check.is("up to 15", x.slit(3, 3), 12);
    check.refuses("17", Works.STATE, x, () -> x.slit(4, 2));
    check.refuses("17, slit", Works.UNSUPPORTED, x, () -> x.slit(3, 2));
    check.refuses("17, out of range", Works.ARGUMENT, x, () -> x.slit(4, 5));
    check.refuses("no sixteenth yet", Works.INDEX, x, () -> x.burr(15));
    check.is("wear of four", x.sharpen(), 40);
    check.is("sixteenth", x.slit(4, 1), 15);
    check.refuses("another", Works.STATE, x, () -> x.slit(5, 1));
    check.is("burr of the sixteenth", x.burr(15), 0);
  }

  private static void knifeWears() {
    CoatLine x = new CoatLine();
    x.lot('p', 100, 999);
    x.coat(0, 199, 10);
    x.coat(0, 10, 10);
    x.coat(0, 200, 10);
    x.coat(0, 10, 10);
    x.coat(0, 10, 10);
    x.slit(0, 4);
    x.slit(1, 1);
    x.slit(2, 1);
    x.slit(3, 2);
    check.is("ahead of any", x.burr(0), 0);
    check.is("all of a coil", x.burr(3), 0);
    check.is("behind 199", x.burr(4), 0);
    check.is("behind 209", x.burr(5), 1);
    check.is("behind 409", x.burr(6), 2);
    check.is("behind 409 too", x.burr(7), 2);
    check.is("sharpen", x.sharpen(), 419);
    check.is("sharpen again", x.sharpen(), 0);
    check.is("burrs stay", x.burr(7), 2);
    x.slit(4, 1);
    check.is("sharp", x.burr(8), 0);
    check.refuses("ribbon 9", Works.INDEX, x, () -> x.burr(9));
    check.refuses("ribbon -1", Works.INDEX, x, () -> x.burr(-1));
  }

  private static void nextOfARibbon() {
    CoatLine x = Works.coated(50);
    x.coat(0, 10, 50);
    x.slit(2, 2);
    x.slit(1, 1);
    check.is("at first", x.next(0), 0);
    x.wind(0, 2, 7);
    check.is("behind 7", x.next(0), 7);
    check.is("the other of the coil", x.next(1), 0);
    check.is("1 more of 'n'", x.next(2), 8);
    x.wind(0, 2, 3);
    check.is("all of it", x.next(0), 10);
    check.is("12 of 'n'", x.next(2), 12);
    check.refuses("ribbon 3", Works.INDEX, x, () -> x.next(3));
    check.refuses("ribbon -1", Works.INDEX, x, () -> x.next(-1));
  }
}
