/** Calls that several exceptions apply to: the one that the document has first is thrown. */
final class OrderTest {
  private static final Check check = new Check("OrderTest");

  public static void main(String[] args) {
    lot();
    coat();
    markAndPress();
    slit();
    wind();
    cells();
    timeAndProtocols();
    form();
    module();
    pack();
    driving();
    doubts();
    check.end();
  }

  private static void lot() {
    CoatLine x = new CoatLine();
    for (int number = 0; number < 8; number++) {
      x.lot('p', 100, 5);
    }
    check.refuses("no kind, eight", Works.ARGUMENT, x, () -> x.lot('q', 100, 5));
    check.refuses("strength, eight", Works.ARGUMENT, x, () -> x.lot('p', 151, 5));
    check.refuses("amount, eight", Works.ARGUMENT, x, () -> x.lot('p', 100, 1000));
    check.refuses("eight alone", Works.STATE, x, () -> x.lot('p', 100, 5));
  }

  private static void coat() {
    CoatLine few = new CoatLine();
    few.lot('p', 100, 1);
    check.refuses("no lot, metres", Works.INDEX, few, () -> few.coat(1, 9, 50));
    check.refuses("no lot, weight", Works.INDEX, few, () -> few.coat(-1, 20, 91));
    check.refuses("metres, not as much", Works.ARGUMENT, few, () -> few.coat(0, 201, 50));
    check.refuses("weight, not as much", Works.ARGUMENT, few, () -> few.coat(0, 20, 91));
    check.refuses("not as much alone", Works.UNSUPPORTED, few, () -> few.coat(0, 20, 50));
    CoatLine x = new CoatLine();
    x.lot('p', 100, 40);
    for (int number = 0; number < 10; number++) {
      x.coat(0, 10, 10);
    }
    check.refuses("no lot, ten", Works.INDEX, x, () -> x.coat(1, 20, 50));
    check.refuses("metres, ten", Works.ARGUMENT, x, () -> x.coat(0, 9, 50));
    check.refuses("weight, ten", Works.ARGUMENT, x, () -> x.coat(0, 20, 9));
    check.refuses("not as much, ten", Works.UNSUPPORTED, x, () -> x.coat(0, 200, 10));
    check.refuses("all of them", Works.INDEX, x, () -> x.coat(1, 201, 91));
    check.refuses("all but the first", Works.ARGUMENT, x, () -> x.coat(0, 201, 91));
    check.refuses("ten alone", Works.STATE, x, () -> x.coat(0, 190, 10));
  }

  private static void markAndPress() {
    CoatLine x = Works.coated(50);
    x.slit(0, 1);
    check.refuses("no coil, no mark", Works.INDEX, x, () -> x.mark(2, 0, 'z'));
    check.refuses("no metre, no mark", Works.INDEX, x, () -> x.mark(1, 200, 'z'));
    check.refuses("no metre, slit", Works.INDEX, x, () -> x.mark(0, -1, 's'));
    check.refuses("no metre, no mark, slit", Works.INDEX, x, () -> x.mark(0, 200, 'z'));
    check.refuses("no mark, slit", Works.ARGUMENT, x, () -> x.mark(0, 0, 'z'));
    check.refuses("slit alone", Works.UNSUPPORTED, x, () -> x.mark(0, 0, '-'));
    check.refuses("no coil, pressure", Works.INDEX, x, () -> x.press(2, 101));
    check.refuses("pressure, slit", Works.ARGUMENT, x, () -> x.press(0, -1));
    check.refuses("slit alone", Works.UNSUPPORTED, x, () -> x.press(0, 0));
  }

  private static void slit() {
    CoatLine x = new CoatLine();
    x.lot('p', 100, 999);
    for (int coil = 0; coil < 6; coil++) {
      x.coat(0, 10, 10);
    }
    for (int coil = 0; coil < 3; coil++) {
      x.slit(coil, 4);
    }
    x.slit(3, 3);
    check.refuses("no coil, ribbons", Works.INDEX, x, () -> x.slit(6, 0));
    check.refuses("no coil, too many", Works.INDEX, x, () -> x.slit(-1, 2));
    check.refuses("ribbons, slit", Works.ARGUMENT, x, () -> x.slit(0, 0));
    check.refuses("ribbons, too many", Works.ARGUMENT, x, () -> x.slit(4, 5));
    check.refuses("ribbons, slit, too many", Works.ARGUMENT, x, () -> x.slit(0, 5));
    check.refuses("slit, too many", Works.UNSUPPORTED, x, () -> x.slit(0, 2));
    check.refuses("too many alone", Works.STATE, x, () -> x.slit(4, 2));
    check.is("just as many", x.slit(4, 1), 15);
  }

  private static void wind() {
    CoatLine x = Works.slit(50, 1);
    x.coat(0, 10, 50);
    x.slit(2, 1);
    check.refuses("no first, length", Works.INDEX, x, () -> x.wind(3, 1, 1));
    check.refuses("no second, length", Works.INDEX, x, () -> x.wind(0, 3, 41));
    check.refuses("no second, first of 'n'", Works.INDEX, x, () -> x.wind(1, 3, 4));
    check.refuses("no first, second of 'p'", Works.INDEX, x, () -> x.wind(-1, 0, 4));
    check.refuses("no first, no stretch", Works.INDEX, x, () -> x.wind(-1, 1, 40));
    check.refuses("length, no stretch", Works.ARGUMENT, x, () -> x.wind(2, 1, 41));
    check.refuses("the other kinds, no stretch", Works.ARGUMENT, x, () -> x.wind(1, 2, 11));
    check.refuses("second of 'p', no stretch", Works.ARGUMENT, x, () -> x.wind(2, 2, 11));
    check.refuses("no stretch alone", Works.UNSUPPORTED, x, () -> x.wind(2, 1, 11));
    for (int cell = 0; cell < 24; cell++) {
      x.wind(0, 1, 2);
    }
    check.refuses("no first, 24", Works.INDEX, x, () -> x.wind(3, 1, 4));
    check.refuses("length, 24", Works.ARGUMENT, x, () -> x.wind(0, 1, 1));
    check.refuses("the other kinds, 24", Works.ARGUMENT, x, () -> x.wind(1, 0, 4));
    check.refuses("no stretch, 24", Works.UNSUPPORTED, x, () -> x.wind(2, 1, 11));
    check.refuses("24 alone", Works.STATE, x, () -> x.wind(2, 1, 10));
  }

  private static void cells() {
    CoatLine x = Works.wound(50, 4, 4);
    x.fill(0, 1);
    x.doubt(0, 4, 4);
    check.refuses("no cell, no such thing", Works.INDEX, x, () -> x.cellAt(2, 'z'));
    check.refuses("no cell, no metre", Works.INDEX, x, () -> x.traced(2, true, 4));
    check.refuses("no cell, steps", Works.INDEX, x, () -> x.fill(2, 5));
    check.refuses("steps, filled", Works.ARGUMENT, x, () -> x.fill(0, 0));
    check.refuses("steps, covered", Works.ARGUMENT, x, () -> x.fill(1, 5));
    x.clear(0);
    x.doubtAll(true, 0);
    check.refuses("filled and covered", Works.UNSUPPORTED, x, () -> x.fill(0, 1));
  }

  private static void timeAndProtocols() {
    CoatLine x = new CoatLine();
    for (int i = 0; i < 19; i++) {
      x.pass(500);
    }
    check.refuses("hours, above the last one", Works.ARGUMENT, x, () -> x.pass(501));
    check.refuses("hours of the most", Works.ARGUMENT, x, () -> x.pass(Integer.MAX_VALUE));
    check.refuses("above the last one alone", Works.STATE, x, () -> x.pass(500));
    for (int protocol = 0; protocol < 4; protocol++) {
      x.protocol(1, 1);
    }
    check.refuses("current, four", Works.ARGUMENT, x, () -> x.protocol(31, 1));
    check.refuses("hours, four", Works.ARGUMENT, x, () -> x.protocol(1, 21));
    check.refuses("four alone", Works.STATE, x, () -> x.protocol(1, 1));
    for (int steps = 2; steps <= 6; steps++) {
      x.step(3, 1, 1);
    }
    check.refuses("no protocol, current", Works.INDEX, x, () -> x.step(4, 31, 1));
    check.refuses("no protocol, hours", Works.INDEX, x, () -> x.step(-1, 1, 0));
    check.refuses("current, six", Works.ARGUMENT, x, () -> x.step(3, -31, 1));
    check.refuses("hours, six", Works.ARGUMENT, x, () -> x.step(3, 1, 0));
    check.refuses("six alone", Works.STATE, x, () -> x.step(3, 1, 1));
    check.refuses("below 0, and above the first", Works.ARGUMENT, x, () -> x.bounds(-2, -1, 100));
  }

  private static void form() {
    CoatLine x = Works.wet(50, 4, 4);
    x.protocol(1, 1);
    x.form(0, 0, 0);
    x.doubt(0, 4, 4);
    x.wind(0, 1, 4);
    for (int cell = 0; cell < 3; cell++) {
      int number = cell;
      check.refuses("no protocol, cell " + cell, Works.INDEX, x, () -> x.form(number, 1, 0));
      check.refuses("no channel, cell " + cell, Works.INDEX, x, () -> x.form(number, 0, 4));
      check.refuses("cell " + cell, Works.UNSUPPORTED, x, () -> x.form(number, 0, 1));
    }
    check.refuses("nothing of it", Works.INDEX, x, () -> x.form(3, 1, 4));
  }

  private static void module() {
    CoatLine x = Works.ready(50, 4, 4, 4, 4, 4, 4, 4, 4, 4, 4, 4, 4, 4, 4);
    check.refuses("count, too few", Works.ARGUMENT, x, () -> x.module(1, 'b'));
    check.refuses("count, no sort", Works.ARGUMENT, x, () -> x.module(7, 'c'));
    check.refuses("no sort, too few", Works.ARGUMENT, x, () -> x.module(2, 'x'));
    check.refuses("too few alone", Works.ELEMENT, x, () -> x.module(2, 'b'));
    for (int module = 0; module < 6; module++) {
      x.module(2, 'a');
    }
    check.refuses("count, six", Works.ARGUMENT, x, () -> x.module(1, 'a'));
    check.refuses("no sort, six", Works.ARGUMENT, x, () -> x.module(2, 'c'));
    check.refuses("too few, six", Works.ELEMENT, x, () -> x.module(3, 'a'));
    check.refuses("none of the sort, six", Works.ELEMENT, x, () -> x.module(2, 'b'));
    check.refuses("six alone", Works.STATE, x, () -> x.module(2, 'a'));
    check.refuses("no module, no index", Works.INDEX, x, () -> x.cellOf(6, 2));
    check.refuses("no index alone", Works.ELEMENT, x, () -> x.cellOf(5, 2));
  }

  private static void pack() {
    CoatLine x = Works.ready(50, 4, 4, 4, 4, 4, 4, 4, 4, 4, 4, 4, 4);
    for (int module = 0; module < 6; module++) {
      x.module(2, 'a');
    }
    x.pack(0, -1);
    x.doubt(0, 4, 4);
    check.refuses("no module, the same", Works.INDEX, x, () -> x.pack(6, 6));
    check.refuses("both -1", Works.INDEX, x, () -> x.pack(-1, -1));
    check.refuses("no other, in a pack", Works.INDEX, x, () -> x.pack(0, 6));
    check.refuses("no module, other in a pack", Works.INDEX, x, () -> x.pack(-1, 0));
    check.refuses("the same, in a pack", Works.ARGUMENT, x, () -> x.pack(0, 0));
    x.clear(0);
    x.doubt(0, 8, 8);
    check.refuses("the same, covered", Works.ARGUMENT, x, () -> x.pack(1, 1));
    check.refuses("no other, covered", Works.INDEX, x, () -> x.pack(1, -2));
    for (int module = 2; module < 5; module++) {
      x.pack(module, -1);
    }
    check.refuses("no module, four", Works.INDEX, x, () -> x.pack(6, -1));
    check.refuses("no other, four", Works.INDEX, x, () -> x.pack(5, 6));
    check.refuses("the same, four", Works.ARGUMENT, x, () -> x.pack(5, 5));
    check.refuses("in a pack, four", Works.UNSUPPORTED, x, () -> x.pack(0, 5));
    check.refuses("other in a pack, four", Works.UNSUPPORTED, x, () -> x.pack(5, 0));
    check.refuses("covered, four", Works.UNSUPPORTED, x, () -> x.pack(1, -1));
    check.refuses("other covered, four", Works.UNSUPPORTED, x, () -> x.pack(5, 1));
    check.refuses("four alone", Works.STATE, x, () -> x.pack(5, -1));
  }

  private static void driving() {
    CoatLine x = Works.packed(8, 8);
    check.refuses("no pack, offset", Works.INDEX, x, () -> x.offset(1, 6));
    check.refuses("no pack, current", Works.INDEX, x, () -> x.drive(1, 31, 1));
    check.refuses("no pack, hours", Works.INDEX, x, () -> x.drive(-1, 1, 0));
    check.refuses("no pack, hours of rest", Works.INDEX, x, () -> x.rest(1, 41));
    check.is("off ahead of the third hour", x.drive(0, 30, 3), 2);
    check.refuses("current, off", Works.ARGUMENT, x, () -> x.drive(0, -31, 1));
    check.refuses("hours, off", Works.ARGUMENT, x, () -> x.drive(0, 1, 41));
    check.refuses("off alone", Works.UNSUPPORTED, x, () -> x.drive(0, 1, 1));
    x.doubtAll(true, 0);
    check.refuses("off and recalled", Works.UNSUPPORTED, x, () -> x.drive(0, 1, 1));
    x.on(0);
    check.refuses("current, recalled", Works.ARGUMENT, x, () -> x.drive(0, 31, 1));
    check.refuses("hours, recalled", Works.ARGUMENT, x, () -> x.drive(0, 1, 0));
    check.refuses("recalled alone", Works.UNSUPPORTED, x, () -> x.drive(0, 0, 1));
  }

  private static void doubts() {
    CoatLine x = Works.coated(50);
    check.refuses("no coil, last one less", Works.INDEX, x, () -> x.doubt(2, 5, 4));
    check.refuses("no first, last one less", Works.INDEX, x, () -> x.doubt(0, 200, 4));
    check.refuses("no last, which is less", Works.INDEX, x, () -> x.doubt(0, 5, -1));
    for (int doubt = 0; doubt < 8; doubt++) {
      x.doubt(0, 0, 0);
    }
    check.refuses("no coil, eight", Works.INDEX, x, () -> x.doubt(-1, 0, 0));
    check.refuses("no metre, eight", Works.INDEX, x, () -> x.doubt(0, 0, 200));
    check.refuses("last one less, eight", Works.ARGUMENT, x, () -> x.doubt(0, 1, 0));
    check.refuses("eight alone", Works.STATE, x, () -> x.doubt(0, 0, 0));
    check.refuses("no lot, eight", Works.INDEX, x, () -> x.doubtAll(true, 2));
    check.refuses("lot below 0, eight", Works.INDEX, x, () -> x.doubtAll(true, -1));
    check.refuses("burr, eight", Works.ARGUMENT, x, () -> x.doubtAll(false, -1));
    check.refuses("eight alone, of a lot", Works.STATE, x, () -> x.doubtAll(true, 1));
    check.refuses("eight alone, of burrs", Works.STATE, x, () -> x.doubtAll(false, 0));
  }
}
