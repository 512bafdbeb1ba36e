/** Promises 1 to 5: a new object, lots and the coater. */
final class LotsTest {
  private static final Check check = new Check("LotsTest");

  public static void main(String[] args) {
    newObjectHasNothing();
    newObjectHasItsSettings();
    lotsAreNumbered();
    lotsOutOfRange();
    lotsAtMostEight();
    leftIsTheAmount();
    driftCountsFromNextMetre();
    driftOutOfRange();
    resetSetsTheCoaterAnew();
    check.end();
  }

  private static void newObjectHasNothing() {
    CoatLine x = new CoatLine();
    check.is("time", x.time(), 0);
    check.is("givenBack", x.givenBack(), 0);
    check.is("checksum", x.checksum(), 7);
    check.yes("isSound", x.isSound());
    for (int channel = 0; channel < 4; channel++) {
      check.is("freeAt", x.freeAt(channel), 0);
    }
    check.refuses("left", Works.INDEX, x, () -> x.left(0));
    check.refuses("weight", Works.INDEX, x, () -> x.weight(0, 0));
    check.refuses("next", Works.INDEX, x, () -> x.next(0));
    check.refuses("cellAt", Works.INDEX, x, () -> x.cellAt(0, 'h'));
    check.refuses("step", Works.INDEX, x, () -> x.step(0, 1, 1));
    check.refuses("spread", Works.INDEX, x, () -> x.spread(0));
    check.refuses("state", Works.INDEX, x, () -> x.state(0));
    check.refuses("clear", Works.INDEX, x, () -> x.clear(0));
  }

  private static void newObjectHasItsSettings() {
    CoatLine x = new CoatLine();
    check.is("drift", x.drift(3), 0);
    check.is("reset", x.reset(), 0);
    check.is("sharpen", x.sharpen(), 0);
    check.is("gap", x.gap(3), 4);
    check.is("dew", x.dew(-3), -40);
    check.is("room", x.room(3), 20);
    check.is("bounds", x.bounds(3, 2, 1), 100);
    check.is("drift of another object", new CoatLine().drift(3), 0);
  }

  private static void lotsAreNumbered() {
    CoatLine x = new CoatLine();
    check.is("lot 0", x.lot('p', 50, 1), 0);
    check.is("lot 1", x.lot('n', 150, 999), 1);
    check.is("lot 2", x.lot('n', 100, 7), 2);
    check.is("left 0", x.left(0), 1);
    check.is("left 1", x.left(1), 999);
    check.is("left 2", x.left(2), 7);
  }

  private static void lotsOutOfRange() {
    CoatLine x = new CoatLine();
    check.refuses("kind q", Works.ARGUMENT, x, () -> x.lot('q', 100, 5));
    check.refuses("kind P", Works.ARGUMENT, x, () -> x.lot('P', 100, 5));
    check.refuses("strength 49", Works.ARGUMENT, x, () -> x.lot('p', 49, 5));
    check.refuses("strength 151", Works.ARGUMENT, x, () -> x.lot('p', 151, 5));
    check.refuses("amount 0", Works.ARGUMENT, x, () -> x.lot('n', 100, 0));
    check.refuses("amount 1000", Works.ARGUMENT, x, () -> x.lot('n', 100, 1000));
    check.is("first lot behind them", x.lot('p', 100, 5), 0);
  }

  private static void lotsAtMostEight() {
    CoatLine x = new CoatLine();
    for (int number = 0; number < 8; number++) {
      check.is("lot", x.lot(number % 2 == 0 ? 'p' : 'n', 100, 10 + number), number);
    }
    check.refuses("ninth", Works.STATE, x, () -> x.lot('p', 100, 5));
    check.refuses("ninth of no kind", Works.ARGUMENT, x, () -> x.lot('x', 100, 5));
    check.refuses("ninth without an amount", Works.ARGUMENT, x, () -> x.lot('p', 100, 0));
    check.is("left of the eighth", x.left(7), 17);
    check.refuses("left of a ninth", Works.INDEX, x, () -> x.left(8));
  }

  private static void leftIsTheAmount() {
    CoatLine x = new CoatLine();
    x.lot('p', 100, 300);
    x.coat(0, 60, 40);
    check.is("60 by 40 use 25", x.left(0), 275);
    x.coat(0, 33, 40);
    check.is("33 by 40 use 13 and 1", x.left(0), 261);
    check.refuses("left -1", Works.INDEX, x, () -> x.left(-1));
    check.refuses("left 1", Works.INDEX, x, () -> x.left(1));
    check.refuses("left of the least", Works.INDEX, x, () -> x.left(Integer.MIN_VALUE));
    check.refuses("left of the most", Works.INDEX, x, () -> x.left(Integer.MAX_VALUE));
  }

  private static void driftCountsFromNextMetre() {
    CoatLine x = new CoatLine();
    x.lot('p', 100, 999);
    x.coat(0, 25, 30);
    check.is("drift never, 24", x.weight(0, 24), 30);
    check.is("drift before", x.drift(10), 0);
    check.is("coated ahead stays", x.weight(0, 24), 30);
    x.coat(0, 20, 30);
    check.is("behind 25", x.weight(1, 0), 32);
    check.is("behind 29", x.weight(1, 4), 32);
    check.is("behind 30", x.weight(1, 5), 33);
    check.is("behind 44", x.weight(1, 19), 34);
    check.is("drift before again", x.drift(99), 10);
    x.coat(0, 70, 30);
    check.is("behind 45", x.weight(2, 0), 30);
    check.is("behind 98", x.weight(2, 53), 30);
    check.is("behind 99", x.weight(2, 54), 31);
    check.is("drift set to never", x.drift(0), 99);
    x.coat(0, 10, 30);
    check.is("never again", x.weight(3, 9), 30);
    check.is("all the metres count", x.reset(), 125);
  }

  private static void driftOutOfRange() {
    CoatLine x = new CoatLine();
    x.drift(7);
    check.refuses("drift -1", Works.ARGUMENT, x, () -> x.drift(-1));
    check.refuses("drift 100", Works.ARGUMENT, x, () -> x.drift(100));
    check.is("drift as it was", x.drift(99), 7);
    check.is("drift 99", x.drift(1), 99);
  }

  private static void resetSetsTheCoaterAnew() {
    CoatLine x = new CoatLine();
    x.lot('p', 100, 999);
    x.drift(1);
    x.coat(0, 12, 10);
    check.is("weight by a drift of 1", x.weight(0, 11), 21);
    check.is("reset", x.reset(), 12);
    check.is("reset again", x.reset(), 0);
    x.coat(0, 10, 10);
    check.is("anew", x.weight(1, 0), 10);
    check.is("its drift stays", x.weight(1, 1), 11);
  }
}
