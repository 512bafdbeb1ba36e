/** Each call on an object that has nothing in it yet, which is as new behind all of them. */
final class EmptyTest {
  private static final Check check = new Check("EmptyTest");

  public static void main(String[] args) {
    CoatLine x = new CoatLine();
    String before = Inside.of(x);
    noLotsCoilsRibbons(x);
    noCells(x);
    noCharges(x);
    noModulesAndPacks(x);
    noDoubts(x);
    figuresOfNothing(x);
    check.yes("still as new", Inside.of(x).equals(before));
    check.yes("as another one", Inside.of(new CoatLine()).equals(before));
    settingsAlone();
    onlyOneOfEach();
    check.end();
  }

  private static void noLotsCoilsRibbons(CoatLine x) {
    check.refuses("left", Works.INDEX, x, () -> x.left(0));
    check.refuses("coat", Works.INDEX, x, () -> x.coat(0, 20, 50));
    check.refuses("weight", Works.INDEX, x, () -> x.weight(0, 0));
    check.refuses("mark", Works.INDEX, x, () -> x.mark(0, 0, 's'));
    check.refuses("press", Works.INDEX, x, () -> x.press(0, 1));
    check.refuses("thickness", Works.INDEX, x, () -> x.thickness(0, 0));
    check.refuses("slit", Works.INDEX, x, () -> x.slit(0, 1));
    check.refuses("burr", Works.INDEX, x, () -> x.burr(0));
    check.refuses("next", Works.INDEX, x, () -> x.next(0));
    check.is("reset", x.reset(), 0);
    check.is("sharpen", x.sharpen(), 0);
  }

  private static void noCells(CoatLine x) {
    check.refuses("wind", Works.INDEX, x, () -> x.wind(0, 0, 4));
    check.refuses("wind 0 and 1", Works.INDEX, x, () -> x.wind(0, 1, 4));
    check.refuses("cellAt", Works.INDEX, x, () -> x.cellAt(0, 'h'));
    check.refuses("isShort", Works.INDEX, x, () -> x.isShort(0));
    check.refuses("isPlated", Works.INDEX, x, () -> x.isPlated(0));
    check.refuses("traced", Works.INDEX, x, () -> x.traced(0, true, 0));
    check.refuses("fill", Works.INDEX, x, () -> x.fill(0, 1));
  }

  private static void noCharges(CoatLine x) {
    check.refuses("step", Works.INDEX, x, () -> x.step(0, 1, 1));
    check.refuses("form", Works.INDEX, x, () -> x.form(0, 0, 0));
    check.refuses("sort", Works.INDEX, x, () -> x.sort(0));
    for (int channel = 0; channel < 4; channel++) {
      check.is("freeAt", x.freeAt(channel), 0);
    }
    check.is("givenBack", x.givenBack(), 0);
  }

  private static void noModulesAndPacks(CoatLine x) {
    check.refuses("module a", Works.ELEMENT, x, () -> x.module(2, 'a'));
    check.refuses("module b", Works.ELEMENT, x, () -> x.module(6, 'b'));
    check.refuses("cellOf", Works.INDEX, x, () -> x.cellOf(0, 0));
    check.refuses("spread", Works.INDEX, x, () -> x.spread(0));
    check.refuses("pack", Works.INDEX, x, () -> x.pack(0, -1));
    check.refuses("pack of none at all", Works.INDEX, x, () -> x.pack(-1, -1));
    check.refuses("offset", Works.INDEX, x, () -> x.offset(0, 0));
    check.refuses("drive", Works.INDEX, x, () -> x.drive(0, 1, 1));
    check.refuses("rest", Works.INDEX, x, () -> x.rest(0, 1));
    check.refuses("on", Works.INDEX, x, () -> x.on(0));
    check.refuses("stage", Works.INDEX, x, () -> x.stage(0));
    check.refuses("state", Works.INDEX, x, () -> x.state(0));
    check.refuses("recount", Works.INDEX, x, () -> x.recount(0));
    check.refuses("balance", Works.INDEX, x, () -> x.balance(0));
  }

  private static void noDoubts(CoatLine x) {
    check.refuses("doubt", Works.INDEX, x, () -> x.doubt(0, 0, 0));
    check.refuses("doubt of a lot", Works.INDEX, x, () -> x.doubtAll(true, 0));
    check.refuses("clear", Works.INDEX, x, () -> x.clear(0));
    check.refuses("isCovered", Works.INDEX, x, () -> x.isCovered(0));
    check.refuses("isRecalled", Works.INDEX, x, () -> x.isRecalled(0));
    check.refuses("sisters", Works.INDEX, x, () -> x.sisters(0));
    check.refuses("isSister", Works.INDEX, x, () -> x.isSister(0, 0));
  }

  private static void figuresOfNothing(CoatLine x) {
    check.is("time", x.time(), 0);
    check.refuses("readyShare", ArithmeticException.class, x, () -> x.readyShare());
    check.refuses("meanHold", ArithmeticException.class, x, () -> x.meanHold());
    check.is("checksum", x.checksum(), 7);
    check.yes("isSound", x.isSound());
  }

  /** What needs nothing ahead of it. */
  private static void settingsAlone() {
    CoatLine x = new CoatLine();
    check.is("doubt of burrs", x.doubtAll(false, 0), 0);
    check.is("which covers nothing", x.clear(0), 0);
    check.is("protocol", x.protocol(1, 1), 0);
    check.is("step", x.step(0, 1, 1), 2);
    check.is("pass", x.pass(1), 1);
    check.is("freeAt", x.freeAt(3), 1);
    check.is("gap", x.gap(0), 4);
    check.is("dew", x.dew(0), -40);
    check.is("room", x.room(0), 20);
    check.is("drift", x.drift(1), 0);
    check.is("bounds", x.bounds(0, 0, 0), 100);
    check.is("lot", x.lot('n', 100, 1), 0);
    check.is("checksum", x.checksum(), 7);
    check.yes("isSound", x.isSound());
    check.refuses("readyShare", ArithmeticException.class, x, () -> x.readyShare());
    check.refuses("meanHold", ArithmeticException.class, x, () -> x.meanHold());
  }

  /** One cell, which has no sisters and makes no module. */
  private static void onlyOneOfEach() {
    CoatLine x = Works.ready(50, 4);
    check.is("sisters", x.sisters(0), 0);
    check.no("isSister", x.isSister(0, 0));
    check.refuses("module", Works.ELEMENT, x, () -> x.module(2, 'a'));
    check.isReal("readyShare", x.readyShare(), 1);
    check.isReal("meanHold", x.meanHold(), 178);
  }
}
