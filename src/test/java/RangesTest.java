/**
 * Each number and letter that a call takes, one by one: the least and the most that are allowed,
 * the first ones beyond them, and the least and the most that there are.
 */
final class RangesTest {
  private static final int MIN = Integer.MIN_VALUE;
  private static final int MAX = Integer.MAX_VALUE;
  private static final Check check = new Check("RangesTest");

  /** A new object to call on. */
  private interface Maker {
    CoatLine make();
  }

  /** A call with the one number that is looked at. */
  private interface Call {
    void with(CoatLine x, int number);
  }

  public static void main(String[] args) {
    lotsAndCoils();
    coilsByNumber();
    cells();
    cellsByNumber();
    charges();
    modulesAndPacks();
    packsByNumber();
    doubts();
    letters();
    check.end();
  }

  private static void range(String what, Class<? extends RuntimeException> kind, int least,
      int most, Maker maker, Call call) {
    int[] allowed = {least, most};
    for (int number : allowed) {
      try {
        call.with(maker.make(), number);
      } catch (RuntimeException thrown) {
        check.no(what + " " + number + " threw " + thrown, true);
      }
    }
    refused(what, kind, most == MAX ? MIN : most + 1, maker, call);
    refused(what, kind, least == MIN ? MAX : least - 1, maker, call);
    refused(what, kind, least == MIN ? MAX : MIN, maker, call);
    refused(what, kind, most == MAX ? MIN : MAX, maker, call);
  }

  private static void refused(String what, Class<? extends RuntimeException> kind, int number,
      Maker maker, Call call) {
    CoatLine x = maker.make();
    check.refuses(what + " " + number, kind, x, () -> call.with(x, number));
  }

  private static CoatLine coils() {
    return Works.coated(50);
  }

  // Ribbons 0 and 1 'p', 2 and 3 'n'; cell 0 has 5 metres 'p' and 6 'n'.
  private static CoatLine oneCell() {
    CoatLine x = Works.slit(50, 2);
    x.wind(1, 3, 5);
    return x;
  }

  private static CoatLine wetCells() {
    CoatLine x = Works.wet(50, 4, 4, 4);
    x.protocol(1, 1);
    x.protocol(2, 2);
    return x;
  }

  private static CoatLine readyCells() {
    return Works.ready(50, 4, 4, 4, 4, 4, 4, 4);
  }

  // Cells 0 and 1 in module 0, 2 and 3 in module 1, 4 and 5 in module 2.
  private static CoatLine modules() {
    CoatLine x = Works.ready(50, 4, 4, 4, 4, 4, 4);
    for (int module = 0; module < 3; module++) {
      x.module(2, 'a');
    }
    return x;
  }

  private static CoatLine packs() {
    CoatLine x = modules();
    x.pack(0, -1);
    x.pack(1, 2);
    return x;
  }

  private static CoatLine doubted() {
    CoatLine x = Works.wound(50, 4);
    x.doubt(0, 9, 9);
    x.doubtAll(true, 0);
    return x;
  }

  private static void lotsAndCoils() {
    range("lot strength", Works.ARGUMENT, 50, 150, CoatLine::new, (x, n) -> x.lot('p', n, 5));
    range("lot amount", Works.ARGUMENT, 1, 999, CoatLine::new, (x, n) -> x.lot('n', 100, n));
    range("drift", Works.ARGUMENT, 0, 99, CoatLine::new, (x, n) -> x.drift(n));
    range("left", Works.INDEX, 0, 1, RangesTest::coils, (x, n) -> x.left(n));
    range("coat lot", Works.INDEX, 0, 1, RangesTest::coils, (x, n) -> x.coat(n, 20, 50));
    range("coat metres", Works.ARGUMENT, 10, 200, RangesTest::coils, (x, n) -> x.coat(0, n, 50));
    range("coat weight", Works.ARGUMENT, 10, 90, RangesTest::coils, (x, n) -> x.coat(0, 20, n));
  }

  private static void coilsByNumber() {
    Class<IndexOutOfBoundsException> kind = Works.INDEX;
    range("weight coil", kind, 0, 1, RangesTest::coils, (x, n) -> x.weight(n, 0));
    range("weight metre", kind, 0, 199, RangesTest::coils, (x, n) -> x.weight(1, n));
    range("mark coil", kind, 0, 1, RangesTest::coils, (x, n) -> x.mark(n, 0, 's'));
    range("mark metre", kind, 0, 199, RangesTest::coils, (x, n) -> x.mark(1, n, 'b'));
    range("press coil", kind, 0, 1, RangesTest::coils, (x, n) -> x.press(n, 50));
    range("pressure", Works.ARGUMENT, 0, 100, RangesTest::coils, (x, n) -> x.press(1, n));
    range("thickness coil", kind, 0, 1, RangesTest::coils, (x, n) -> x.thickness(n, 0));
    range("thickness metre", kind, 0, 199, RangesTest::coils, (x, n) -> x.thickness(1, n));
    range("slit coil", kind, 0, 1, RangesTest::coils, (x, n) -> x.slit(n, 1));
    range("slit ribbons", Works.ARGUMENT, 1, 4, RangesTest::coils, (x, n) -> x.slit(1, n));
    range("burr", kind, 0, 3, RangesTest::oneCell, (x, n) -> x.burr(n));
    range("next", kind, 0, 3, RangesTest::oneCell, (x, n) -> x.next(n));
    Maker shortCoil = () -> {
      CoatLine x = coils();
      x.coat(0, 10, 50);
      return x;
    };
    range("weight of 10", kind, 0, 9, shortCoil, (x, n) -> x.weight(2, n));
    range("mark of 10", kind, 0, 9, shortCoil, (x, n) -> x.mark(2, n, 'c'));
    range("thickness of 10", kind, 0, 9, shortCoil, (x, n) -> x.thickness(2, n));
    range("doubt from of 10", kind, 0, 9, shortCoil, (x, n) -> x.doubt(2, n, 9));
    range("doubt to of 10", kind, 0, 9, shortCoil, (x, n) -> x.doubt(2, 0, n));
  }

  private static void cells() {
    range("gap", Works.ARGUMENT, 0, 9, CoatLine::new, (x, n) -> x.gap(n));
    range("dew", Works.ARGUMENT, -60, 0, CoatLine::new, (x, n) -> x.dew(n));
    range("room", Works.ARGUMENT, -20, 40, CoatLine::new, (x, n) -> x.room(n));
    range("pass", Works.ARGUMENT, 1, 500, CoatLine::new, (x, n) -> x.pass(n));
    range("wind length", Works.ARGUMENT, 2, 40, RangesTest::oneCell, (x, n) -> x.wind(0, 2, n));
    for (int number : new int[] {MIN, -1, 4, MAX}) {
      refused("wind positive", Works.INDEX, number, RangesTest::oneCell,
          (x, n) -> x.wind(n, 2, 4));
      refused("wind negative", Works.INDEX, number, RangesTest::oneCell,
          (x, n) -> x.wind(0, n, 4));
    }
    for (int number = 0; number < 4; number++) {
      if (number < 2) {
        refused("wind negative of 'p'", Works.ARGUMENT, number, RangesTest::oneCell,
            (x, n) -> x.wind(0, n, 4));
      } else {
        refused("wind positive of 'n'", Works.ARGUMENT, number, RangesTest::oneCell,
            (x, n) -> x.wind(n, 2, 4));
      }
    }
  }

  private static void cellsByNumber() {
    Class<IndexOutOfBoundsException> kind = Works.INDEX;
    Maker maker = () -> Works.wound(50, 4, 4, 4);
    range("cellAt", kind, 0, 2, maker, (x, n) -> x.cellAt(n, 'h'));
    range("isShort", kind, 0, 2, maker, (x, n) -> x.isShort(n));
    range("isPlated", kind, 0, 2, maker, (x, n) -> x.isPlated(n));
    range("traced cell", kind, 0, 2, maker, (x, n) -> x.traced(n, true, 0));
    range("fill cell", kind, 0, 2, maker, (x, n) -> x.fill(n, 1));
    range("fill steps", Works.ARGUMENT, 1, 4, maker, (x, n) -> x.fill(1, n));
    range("sort", kind, 0, 2, maker, (x, n) -> x.sort(n));
    range("isCovered", kind, 0, 2, maker, (x, n) -> x.isCovered(n));
    range("sisters", kind, 0, 2, maker, (x, n) -> x.sisters(n));
    range("isSister cell", kind, 0, 2, maker, (x, n) -> x.isSister(n, 1));
    range("isSister other", kind, 0, 2, maker, (x, n) -> x.isSister(1, n));
    range("traced 'p'", Works.ELEMENT, 0, 4, RangesTest::oneCell,
        (x, n) -> x.traced(0, true, n));
    range("traced 'n'", Works.ELEMENT, 0, 5, RangesTest::oneCell,
        (x, n) -> x.traced(0, false, n));
  }

  private static void charges() {
    Class<IllegalArgumentException> kind = Works.ARGUMENT;
    Maker maker = RangesTest::wetCells;
    range("protocol current", kind, -30, 30, CoatLine::new, (x, n) -> x.protocol(n, 5));
    range("protocol hours", kind, 1, 20, CoatLine::new, (x, n) -> x.protocol(5, n));
    range("step protocol", Works.INDEX, 0, 1, maker, (x, n) -> x.step(n, 5, 5));
    range("step current", kind, -30, 30, maker, (x, n) -> x.step(1, n, 5));
    range("step hours", kind, 1, 20, maker, (x, n) -> x.step(1, 5, n));
    range("form cell", Works.INDEX, 0, 2, maker, (x, n) -> x.form(n, 0, 0));
    range("form protocol", Works.INDEX, 0, 1, maker, (x, n) -> x.form(0, n, 0));
    range("form channel", Works.INDEX, 0, 3, maker, (x, n) -> x.form(0, 0, n));
    range("freeAt", Works.INDEX, 0, 3, CoatLine::new, (x, n) -> x.freeAt(n));
    range("first bound", kind, 0, MAX, CoatLine::new, (x, n) -> x.bounds(n, 0, 14));
    range("second bound", kind, 0, 70, CoatLine::new, (x, n) -> x.bounds(70, n, 14));
    range("second bound alone", kind, 0, 0, CoatLine::new, (x, n) -> x.bounds(0, n, 14));
    range("first above the second", kind, 70, MAX, CoatLine::new, (x, n) -> x.bounds(n, 70, 14));
    range("limit", kind, 0, 99, CoatLine::new, (x, n) -> x.bounds(100, 60, n));
  }

  private static void modulesAndPacks() {
    Class<IndexOutOfBoundsException> kind = Works.INDEX;
    range("module count", Works.ARGUMENT, 2, 6, RangesTest::readyCells,
        (x, n) -> x.module(n, 'a'));
    range("cellOf module", kind, 0, 2, RangesTest::modules, (x, n) -> x.cellOf(n, 0));
    range("cellOf index", Works.ELEMENT, 0, 1, RangesTest::modules, (x, n) -> x.cellOf(2, n));
    range("spread", kind, 0, 2, RangesTest::modules, (x, n) -> x.spread(n));
    range("pack module", kind, 0, 2, RangesTest::modules, (x, n) -> x.pack(n, -1));
    for (int number : new int[] {MIN, -2, 3, MAX}) {
      refused("pack other", kind, number, RangesTest::modules, (x, n) -> x.pack(0, n));
    }
    check.is("pack without another one", modules().pack(0, -1), 0);
    check.is("pack with the next one", modules().pack(0, 1), 0);
    check.is("pack with the last one", modules().pack(0, 2), 0);
  }

  private static void packsByNumber() {
    Class<IndexOutOfBoundsException> kind = Works.INDEX;
    Maker maker = RangesTest::packs;
    range("offset pack", kind, 0, 1, maker, (x, n) -> x.offset(n, 1));
    range("offset", Works.ARGUMENT, -5, 5, maker, (x, n) -> x.offset(1, n));
    range("drive pack", kind, 0, 1, maker, (x, n) -> x.drive(n, 1, 1));
    range("drive current", Works.ARGUMENT, -30, 30, maker, (x, n) -> x.drive(1, n, 1));
    range("drive hours", Works.ARGUMENT, 1, 40, maker, (x, n) -> x.drive(1, 1, n));
    range("rest pack", kind, 0, 1, maker, (x, n) -> x.rest(n, 1));
    range("rest hours", Works.ARGUMENT, 1, 40, maker, (x, n) -> x.rest(1, n));
    range("on", kind, 0, 1, maker, (x, n) -> x.on(n));
    range("stage", kind, 0, 1, maker, (x, n) -> x.stage(n));
    range("state", kind, 0, 1, maker, (x, n) -> x.state(n));
    range("recount", kind, 0, 1, maker, (x, n) -> x.recount(n));
    range("balance", kind, 0, 1, maker, (x, n) -> x.balance(n));
    range("isRecalled", kind, 0, 1, maker, (x, n) -> x.isRecalled(n));
  }

  private static void doubts() {
    Class<IndexOutOfBoundsException> kind = Works.INDEX;
    range("doubt coil", kind, 0, 1, RangesTest::coils, (x, n) -> x.doubt(n, 0, 0));
    range("doubt from", kind, 0, 199, RangesTest::coils, (x, n) -> x.doubt(1, n, 199));
    range("doubt to", kind, 0, 199, RangesTest::coils, (x, n) -> x.doubt(1, 0, n));
    range("doubt of a lot", kind, 0, 1, RangesTest::coils, (x, n) -> x.doubtAll(true, n));
    range("doubt of burrs", Works.ARGUMENT, 0, MAX, RangesTest::coils,
        (x, n) -> x.doubtAll(false, n));
    range("clear", kind, 0, 1, RangesTest::doubted, (x, n) -> x.clear(n));
    for (int to = 0; to < 100; to++) {
      refused("doubt from 100 to", Works.ARGUMENT, to, RangesTest::coils,
          (x, n) -> x.doubt(0, 100, n));
    }
  }

  /** All letters that there are. */
  private static void letters() {
    letters("lot", "pn", CoatLine::new, (x, n) -> x.lot((char) n, 100, 5));
    letters("mark", "scb-", RangesTest::coils, (x, n) -> x.mark(0, 0, (char) n));
    letters("cellAt", "hirtuwbd", RangesTest::oneCell, (x, n) -> x.cellAt(0, (char) n));
    letters("module", "ab", RangesTest::bothSorts, (x, n) -> x.module(2, (char) n));
  }

  private static CoatLine bothSorts() {
    CoatLine x = Works.ready(10, 20, 20, 10, 10);
    check.isLetter("sort of cell 0", x.sort(0), 'a');
    check.isLetter("sort of cell 3", x.sort(3), 'b');
    return x;
  }

  private static void letters(String what, String allowed, Maker maker, Call call) {
    CoatLine one = maker.make();
    String before = Inside.of(one);
    int refused = 0;
    for (int letter = 0; letter < 65536; letter++) {
      if (allowed.indexOf(letter) >= 0) {
        call.with(maker.make(), letter);
      } else if (isRefused(one, letter, call)) {
        refused++;
      }
    }
    check.is(what + " refuses all other letters", refused, 65536 - allowed.length());
    check.yes(what + " changes nothing by them", Inside.of(one).equals(before));
  }

  private static boolean isRefused(CoatLine x, int letter, Call call) {
    try {
      call.with(x, letter);
    } catch (RuntimeException thrown) {
      return thrown.getClass() == Works.ARGUMENT && Check.isThrownByTheClass(thrown);
    }
    return false;
  }
}
