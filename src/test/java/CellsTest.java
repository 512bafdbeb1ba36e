/** Promises 15 to 24: cells up to their filling, time and the room. */
final class CellsTest {
  private static final Check check = new Check("CellsTest");

  public static void main(String[] args) {
    gapSet();
    dewSet();
    roomSet();
    windRefused();
    windNoStretch();
    windAtMostTwentyFour();
    windPassesOverMarks();
    baseIsTheLesser();
    dampAndResistance();
    cellAtFirst();
    shortByTheGap();
    tracedMetres();
    fillWets();
    fillRefused();
    passCountsHours();
    passRefused();
    check.end();
  }

  private static void gapSet() {
    CoatLine x = new CoatLine();
    check.is("gap 0", x.gap(0), 4);
    check.is("gap 9", x.gap(9), 0);
    check.refuses("gap -1", Works.ARGUMENT, x, () -> x.gap(-1));
    check.refuses("gap 10", Works.ARGUMENT, x, () -> x.gap(10));
    check.is("as it was", x.gap(1), 9);
  }

  private static void dewSet() {
    CoatLine x = new CoatLine();
    check.is("dew -60", x.dew(-60), -40);
    check.is("dew 0", x.dew(0), -60);
    check.refuses("dew -61", Works.ARGUMENT, x, () -> x.dew(-61));
    check.refuses("dew 1", Works.ARGUMENT, x, () -> x.dew(1));
    check.is("as it was", x.dew(-10), 0);
  }

  private static void roomSet() {
    CoatLine x = new CoatLine();
    check.is("room -20", x.room(-20), 20);
    check.is("room 40", x.room(40), -20);
    check.refuses("room -21", Works.ARGUMENT, x, () -> x.room(-21));
    check.refuses("room 41", Works.ARGUMENT, x, () -> x.room(41));
    check.is("as it was", x.room(0), 40);
  }

  private static void windRefused() {
    CoatLine x = Works.slit(50, 1);
    check.refuses("first -1", Works.INDEX, x, () -> x.wind(-1, 1, 4));
    check.refuses("first 2", Works.INDEX, x, () -> x.wind(2, 1, 1));
    check.refuses("second -1", Works.INDEX, x, () -> x.wind(0, -1, 4));
    check.refuses("second 2", Works.INDEX, x, () -> x.wind(0, 2, 1));
    check.refuses("length 1", Works.ARGUMENT, x, () -> x.wind(0, 1, 1));
    check.refuses("length 41", Works.ARGUMENT, x, () -> x.wind(0, 1, 41));
    check.refuses("both changed", Works.ARGUMENT, x, () -> x.wind(1, 0, 4));
    check.refuses("twice 'p'", Works.ARGUMENT, x, () -> x.wind(0, 0, 4));
    check.refuses("twice 'n'", Works.ARGUMENT, x, () -> x.wind(1, 1, 4));
    check.is("nothing taken of 'p'", x.next(0), 0);
    check.is("nothing taken of 'n'", x.next(1), 0);
    check.is("length 2", x.wind(0, 1, 2), 0);
    check.is("length 40", x.wind(0, 1, 40), 1);
    check.is("42 taken of 'p'", x.next(0), 42);
    check.is("44 taken of 'n'", x.next(1), 44);
  }

  private static void windNoStretch() {
    CoatLine x = new CoatLine();
    x.lot('p', 100, 999);
    x.lot('n', 100, 999);
    x.coat(0, 20, 50);
    x.coat(1, 20, 50);
    x.mark(0, 10, 'b');
    x.slit(0, 1);
    x.slit(1, 1);
    check.refuses("11 of 'p'", Works.UNSUPPORTED, x, () -> x.wind(0, 1, 11));
    check.refuses("as of the other kind", Works.ARGUMENT, x, () -> x.wind(1, 0, 11));
    check.is("nothing taken of 'n'", x.next(1), 0);
    check.is("10 of 'p'", x.wind(0, 1, 10), 0);
    check.is("11 of 'n'", x.next(1), 11);
    check.refuses("10 of 'n' are not there", Works.UNSUPPORTED, x, () -> x.wind(0, 1, 9));
    check.is("nothing taken of 'p'", x.next(0), 10);
    check.is("8 and 9", x.wind(0, 1, 8), 1);
    check.is("behind the mark", x.traced(1, true, 0), 11);
    check.is("to the end", x.next(1), 20);
    check.is("passed over", x.next(0), 19);
    check.refuses("none", Works.UNSUPPORTED, x, () -> x.wind(0, 1, 2));
  }

  private static void windAtMostTwentyFour() {
    CoatLine x = Works.slit(50, 1);
    for (int number = 0; number < 24; number++) {
      check.is("cell", x.wind(0, 1, 2), number);
    }
    check.refuses("another", Works.STATE, x, () -> x.wind(0, 1, 2));
    check.refuses("another, out of range", Works.ARGUMENT, x, () -> x.wind(0, 1, 1));
    check.is("nothing taken of 'p'", x.next(0), 48);
    check.is("nothing taken of 'n'", x.next(1), 72);
    x.coat(0, 10, 50);
    x.slit(2, 1);
    check.refuses("another, no stretch", Works.UNSUPPORTED, x, () -> x.wind(2, 1, 11));
    check.refuses("no cell 24", Works.INDEX, x, () -> x.isShort(24));
  }

  private static void windPassesOverMarks() {
    CoatLine x = Works.coated(50);
    x.mark(0, 3, 's');
    x.mark(0, 8, 'c');
    x.mark(1, 5, 'b');
    x.mark(1, 5, '-');
    x.mark(1, 0, 'b');
    x.slit(0, 1);
    x.slit(1, 1);
    x.wind(0, 1, 4);
    check.is("between two marks", x.traced(0, true, 0), 4);
    check.is("behind its mark", x.traced(0, false, 0), 1001);
    check.is("next of 'p'", x.next(0), 8);
    check.is("next of 'n'", x.next(1), 6);
    x.wind(0, 1, 3);
    check.is("what was passed over is lost", x.traced(1, true, 0), 9);
    check.is("next of 'n' goes on", x.traced(1, false, 0), 1006);
  }

  private static void baseIsTheLesser() {
    CoatLine x = new CoatLine();
    x.lot('p', 111, 999);
    x.lot('n', 90, 999);
    x.drift(1);
    x.coat(0, 20, 33);
    x.reset();
    x.coat(1, 20, 33);
    x.slit(0, 1);
    x.slit(1, 1);
    x.wind(0, 1, 3);
    check.is("102 by 90 of 'n'", x.cellAt(0, 'b'), 91);
    x.wind(0, 1, 2);
    check.is("73 by 111 of 'p', 75 by 90 of 'n'", x.cellAt(1, 'b'), 67);
    CoatLine y = new CoatLine();
    y.lot('n', 111, 999);
    y.lot('p', 99, 999);
    y.coat(0, 20, 33);
    y.coat(1, 20, 33);
    y.slit(0, 1);
    y.slit(1, 1);
    y.wind(1, 0, 3);
    check.is("99 by 99 of 'p'", y.cellAt(0, 'b'), 98);
  }

  private static void dampAndResistance() {
    CoatLine x = Works.coated(50);
    x.press(0, 100);
    x.slit(0, 1);
    x.slit(1, 1);
    x.wind(0, 1, 2);
    check.is("damp by -40", x.cellAt(0, 'd'), 2);
    check.is("thinner 'p'", x.cellAt(0, 'r'), 62);
    x.dew(-60);
    x.wind(0, 1, 2);
    check.is("damp by -60", x.cellAt(1, 'd'), 0);
    check.is("the first one stays", x.cellAt(0, 'd'), 2);
    x.dew(-51);
    x.wind(0, 1, 2);
    check.is("damp by -51", x.cellAt(2, 'd'), 0);
    x.dew(0);
    x.wind(0, 1, 2);
    check.is("damp by 0", x.cellAt(3, 'd'), 6);
    check.is("resistance by it", x.cellAt(3, 'r'), 66);
    CoatLine y = Works.coated(50);
    y.press(1, 50);
    y.slit(0, 1);
    y.slit(1, 1);
    y.wind(0, 1, 2);
    check.is("thinner 'n'", y.cellAt(0, 'r'), 46);
  }

  private static void cellAtFirst() {
    CoatLine x = Works.wound(50, 4);
    check.is("hold", x.cellAt(0, 'h'), 200);
    check.is("in", x.cellAt(0, 'i'), 0);
    check.is("resistance", x.cellAt(0, 'r'), 12);
    check.is("heat", x.cellAt(0, 't'), 0);
    check.is("throughput", x.cellAt(0, 'u'), 0);
    check.is("wet", x.cellAt(0, 'w'), 0);
    check.is("base", x.cellAt(0, 'b'), 200);
    check.is("damp", x.cellAt(0, 'd'), 2);
    check.no("plated", x.isPlated(0));
    check.refuses("no such thing", Works.ARGUMENT, x, () -> x.cellAt(0, 'z'));
    check.refuses("H", Works.ARGUMENT, x, () -> x.cellAt(0, 'H'));
    check.refuses("no such cell", Works.INDEX, x, () -> x.cellAt(1, 'z'));
    check.refuses("cell -1", Works.INDEX, x, () -> x.cellAt(-1, 'h'));
    check.refuses("isPlated 1", Works.INDEX, x, () -> x.isPlated(1));
    check.refuses("isPlated -1", Works.INDEX, x, () -> x.isPlated(-1));
  }

  private static void shortByTheGap() {
    CoatLine x = Works.coated(50);
    x.coat(0, 200, 50);
    x.coat(0, 200, 50);
    x.slit(2, 1);
    x.slit(3, 1);
    x.slit(0, 1);
    x.slit(1, 1);
    check.is("burr of 'p'", x.burr(2), 2);
    check.is("burr of 'n'", x.burr(3), 3);
    x.wind(2, 3, 2);
    check.yes("5 above 4", x.isShort(0));
    x.gap(5);
    check.yes("it stays", x.isShort(0));
    x.wind(2, 3, 2);
    check.no("5 above 5", x.isShort(1));
    x.gap(0);
    check.no("that stays too", x.isShort(1));
    x.wind(0, 3, 2);
    check.yes("3 above 0", x.isShort(2));
    check.refuses("a short one is not filled", Works.UNSUPPORTED, x, () -> x.fill(0, 1));
    check.is("one that is not is", x.fill(1, 1), 15);
    check.refuses("isShort 3", Works.INDEX, x, () -> x.isShort(3));
    check.refuses("isShort -1", Works.INDEX, x, () -> x.isShort(-1));
  }

  private static void tracedMetres() {
    CoatLine x = Works.slit(50, 2);
    x.wind(0, 2, 4);
    x.wind(0, 3, 5);
    check.is("p 0 of 0", x.traced(0, true, 0), 0);
    check.is("p 3 of 0", x.traced(0, true, 3), 3);
    check.is("n 4 of 0", x.traced(0, false, 4), 1004);
    check.is("p 0 of 1", x.traced(1, true, 0), 4);
    check.is("n 5 of 1", x.traced(1, false, 5), 1005);
    check.refuses("p 4 of 0", Works.ELEMENT, x, () -> x.traced(0, true, 4));
    check.refuses("n 5 of 0", Works.ELEMENT, x, () -> x.traced(0, false, 5));
    check.refuses("p -1", Works.ELEMENT, x, () -> x.traced(0, true, -1));
    check.refuses("n -1", Works.ELEMENT, x, () -> x.traced(0, false, -1));
    check.refuses("p of the most", Works.ELEMENT, x, () -> x.traced(0, true, Integer.MAX_VALUE));
    check.refuses("cell 2", Works.INDEX, x, () -> x.traced(2, true, 9));
    check.refuses("cell -1", Works.INDEX, x, () -> x.traced(-1, true, 0));
  }

  private static void fillWets() {
    CoatLine x = Works.wound(50, 4, 4, 4, 4, 4);
    check.is("1 step", x.fill(0, 1), 15);
    check.is("2 steps", x.fill(1, 2), 30);
    check.is("3 steps", x.fill(2, 3), 45);
    check.is("4 steps", x.fill(3, 4), 60);
    x.pass(3);
    check.is("15 and 6", x.cellAt(0, 'w'), 21);
    check.is("60 and 6", x.cellAt(3, 'w'), 66);
    check.is("not filled", x.cellAt(4, 'w'), 0);
    x.pass(17);
    check.is("60 and 40", x.cellAt(3, 'w'), 100);
    x.pass(1);
    check.is("not above 100", x.cellAt(3, 'w'), 100);
    check.is("45 and 42", x.cellAt(2, 'w'), 87);
    x.pass(500);
    check.is("all of it", x.cellAt(0, 'w'), 100);
    check.is("still not filled", x.cellAt(4, 'w'), 0);
    check.is("filled then", x.fill(4, 1), 15);
  }

  private static void fillRefused() {
    CoatLine x = Works.wound(50, 4, 4);
    check.refuses("cell 2", Works.INDEX, x, () -> x.fill(2, 0));
    check.refuses("cell -1", Works.INDEX, x, () -> x.fill(-1, 1));
    check.refuses("0 steps", Works.ARGUMENT, x, () -> x.fill(0, 0));
    check.refuses("5 steps", Works.ARGUMENT, x, () -> x.fill(0, 5));
    check.is("not wet by them", x.cellAt(0, 'w'), 0);
    check.is("filled", x.fill(0, 1), 15);
    check.refuses("filled again", Works.UNSUPPORTED, x, () -> x.fill(0, 4));
    check.refuses("filled, out of range", Works.ARGUMENT, x, () -> x.fill(0, 5));
    check.is("as it was", x.cellAt(0, 'w'), 15);
    x.doubt(0, 4, 4);
    check.refuses("covered", Works.UNSUPPORTED, x, () -> x.fill(1, 1));
    x.clear(0);
    check.is("no longer covered", x.fill(1, 1), 15);
  }

  private static void passCountsHours() {
    CoatLine x = new CoatLine();
    check.is("1", x.pass(1), 1);
    check.is("500 more", x.pass(500), 501);
    check.is("time", x.time(), 501);
  }

  private static void passRefused() {
    CoatLine x = new CoatLine();
    check.refuses("0", Works.ARGUMENT, x, () -> x.pass(0));
    check.refuses("501", Works.ARGUMENT, x, () -> x.pass(501));
    check.refuses("-1", Works.ARGUMENT, x, () -> x.pass(-1));
    check.is("none went by", x.time(), 0);
    for (int i = 0; i < 19; i++) {
      x.pass(500);
    }
    check.refuses("to 10000", Works.STATE, x, () -> x.pass(500));
    check.refuses("501 then", Works.ARGUMENT, x, () -> x.pass(501));
    check.is("as it was", x.time(), 9500);
    check.is("to 9999", x.pass(499), 9999);
    check.refuses("1 more", Works.STATE, x, () -> x.pass(1));
    check.is("the last hour", x.time(), 9999);
  }
}
