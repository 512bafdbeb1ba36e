/** Promises 51 to 55: the figures over all. */
final class FiguresTest {
  private static final Check check = new Check("FiguresTest");

  public static void main(String[] args) {
    timeOfNow();
    sharesOfCells();
    meansOfCells();
    sumOverCells();
    soundAllTheWay();
    check.end();
  }

  private static void timeOfNow() {
    CoatLine x = new CoatLine();
    check.is("at first", x.time(), 0);
    x.pass(7);
    check.is("behind 7", x.time(), 7);
    x.pass(500);
    check.is("behind 507", x.time(), 507);
  }

  private static void sharesOfCells() {
    CoatLine x = new CoatLine();
    check.refuses("no cells", ArithmeticException.class, x, () -> x.readyShare());
    CoatLine y = Works.wet(50, 4, 4, 4);
    check.isReal("none ready", y.readyShare(), 0);
    y.protocol(0, 1);
    y.form(0, 0, 0);
    y.form(1, 0, 0);
    check.isReal("formed alone", y.readyShare(), 0);
    y.pass(1);
    check.isReal("a third", y.readyShare(), 1f / 3f);
    y.pass(1);
    check.isReal("two thirds", y.readyShare(), 2f / 3f);
    y.form(2, 0, 0);
    y.pass(1);
    check.isReal("all", y.readyShare(), 1);
  }

  private static void meansOfCells() {
    CoatLine x = new CoatLine();
    check.refuses("no cells", ArithmeticException.class, x, () -> x.meanHold());
    CoatLine y = Works.wound(50, 4, 5, 2);
    check.isReal("200, 250 and 100", y.meanHold(), 550.0 / 3.0);
    y.fill(0, 4);
    y.protocol(0, 1);
    y.form(0, 0, 0);
    check.isReal("176, 250 and 100", y.meanHold(), 526.0 / 3.0);
  }

  private static void sumOverCells() {
    CoatLine x = Works.wet(50, 4, 5);
    check.is("two cells", x.checksum(), sum(200, 0, 12, 250, 0, 12));
    x.protocol(25, 4);
    x.form(0, 0, 0);
    check.is("one formed", x.checksum(), sum(177, 100, 13, 250, 0, 12));
    CoatLine y = Works.wound(50, 2, 2, 2, 2, 2, 2, 2, 2, 2, 2, 2, 2);
    long wrapped = 7;
    for (int cell = 0; cell < 12; cell++) {
      wrapped = 31 * (31 * (31 * wrapped + 100) + 0) + 12;
    }
    check.is("twelve cells", y.checksum(), wrapped);
  }

  private static long sum(long... numbers) {
    long sum = 7;
    for (long number : numbers) {
      sum = 31 * sum + number;
    }
    return sum;
  }

  private static void soundAllTheWay() {
    CoatLine x = Works.coated(50);
    x.mark(0, 6, 's');
    x.mark(1, 9, 'c');
    x.slit(0, 2);
    x.slit(1, 2);
    check.yes("without cells", x.isSound());
    for (int cell = 0; cell < 8; cell++) {
      x.wind(cell % 2, 2 + cell / 2 % 2, 2 + cell);
      check.yes("wound", x.isSound());
      x.fill(cell, 4);
    }
    x.protocol(30, 20);
    x.step(0, -30, 7);
    for (int cell = 0; cell < 8; cell++) {
      x.room(cell % 2 == 0 ? 20 : -20);
      x.form(cell, 0, cell % 4);
      check.yes("formed", x.isSound());
    }
    x.pass(500);
    check.yes("aged", x.isSound());
    x.bounds(0, 0, 99);
    x.module(2, 'a');
    x.module(2, 'a');
    check.yes("in modules", x.isSound());
    x.pack(0, 1);
    x.rest(0, 40);
    x.room(-20);
    x.drive(0, 30, 40);
    check.yes("driven", x.isSound());
    x.doubtAll(true, 0);
    x.balance(0);
    check.yes("balanced", x.isSound());
  }
}
