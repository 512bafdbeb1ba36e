/** Promises 36 to 43: packs and their managers. */
final class PacksTest {
  private static final Check check = new Check("PacksTest");

  public static void main(String[] args) {
    offsetSet();
    driveRefused();
    driveCountsHours();
    hotStages();
    stagesByHeat();
    offTillSetOn();
    tooHotThoughFull();
    fullEndsADrive();
    emptyEndsADrive();
    halvedToNothing();
    drivesAllCells();
    drivePlates();
    restCools();
    restRefused();
    stateIsReckoned();
    stateStaysWithin();
    recountTakesItAnew();
    balanceTakesOut();
    noAgingInAPack();
    driveTakesNoTime();
    noSuchPack();
    check.end();
  }

  private static void offsetSet() {
    CoatLine x = Works.packed(4, 4);
    check.is("least", x.offset(0, -5), 0);
    check.is("most", x.offset(0, 5), -5);
    check.refuses("-6", Works.ARGUMENT, x, () -> x.offset(0, -6));
    check.refuses("6", Works.ARGUMENT, x, () -> x.offset(0, 6));
    check.refuses("pack 1, 6", Works.INDEX, x, () -> x.offset(1, 6));
    check.refuses("pack -1", Works.INDEX, x, () -> x.offset(-1, 0));
    check.is("as it was", x.offset(0, 0), 5);
  }

  private static void driveRefused() {
    CoatLine x = Works.packed(4, 4);
    check.refuses("pack 1", Works.INDEX, x, () -> x.drive(1, 31, 0));
    check.refuses("pack -1", Works.INDEX, x, () -> x.drive(-1, 1, 1));
    check.refuses("current 31", Works.ARGUMENT, x, () -> x.drive(0, 31, 1));
    check.refuses("current -31", Works.ARGUMENT, x, () -> x.drive(0, -31, 1));
    check.refuses("0 hours", Works.ARGUMENT, x, () -> x.drive(0, 1, 0));
    check.refuses("41 hours", Works.ARGUMENT, x, () -> x.drive(0, 1, 41));
    x.doubt(0, 0, 0);
    check.refuses("recalled", Works.UNSUPPORTED, x, () -> x.drive(0, 1, 1));
    check.refuses("recalled, out of range", Works.ARGUMENT, x, () -> x.drive(0, 1, 41));
    check.is("nothing went in", x.cellAt(0, 'i'), 0);
    x.clear(0);
    check.is("no longer recalled", x.drive(0, 1, 1), 1);
  }

  private static void driveCountsHours() {
    CoatLine x = Works.packed(8, 8);
    check.is("40 hours", x.drive(0, 1, 40), 40);
    check.is("in", x.cellAt(0, 'i'), 40);
    check.is("in the other one", x.cellAt(1, 'i'), 40);
    check.is("out", x.drive(0, -1, 39), 39);
    check.is("in", x.cellAt(1, 'i'), 1);
    check.is("nothing of it is given back", x.givenBack(), 0);
    check.is("without a current", x.drive(0, 0, 40), 40);
    check.is("throughput", x.cellAt(1, 'u'), 79);
  }

  private static void hotStages() {
    CoatLine x = Works.packed(8, 8);
    char[] letters = {'-', '-', 'w', 'w', 'l', 'w', 'l'};
    int[] heats = {24, 42, 56, 66, 56, 66, 56};
    int[] contents = {20, 40, 60, 80, 90, 110, 120};
    for (int i = 0; i < letters.length; i++) {
      check.is("hour " + i, x.drive(0, 20, 1), 1);
      check.isLetter("stage of hour " + i, x.stage(0), letters[i]);
      check.is("heat of hour " + i, x.cellAt(0, 't'), heats[i]);
      check.is("in by hour " + i, x.cellAt(1, 'i'), contents[i]);
    }
    check.is("state by what was sent", x.state(0), 120);
    CoatLine y = Works.packed(8, 8);
    check.is("at once", y.drive(0, 20, 7), 7);
    check.isLetter("the last letter", y.stage(0), 'l');
    check.is("the same", y.checksum(), x.checksum());
    CoatLine z = Works.packed(8, 8);
    z.drive(0, 20, 4);
    z.drive(0, -15, 1);
    check.is("-15 halved, cut", z.cellAt(0, 'i'), 73);
    check.is("state by -7", z.state(0), 73);
  }

  /** Two hours bring a heat; the third one tells what the manager makes of it. */
  private static void stagesByHeat() {
    int[] seen = new int[200];
    for (int first = 0; first <= 30; first++) {
      for (int second = 0; second <= 30; second++) {
        CoatLine x = Works.packed(8, 8);
        x.drive(0, first, 1);
        x.drive(0, second, 1);
        int heat = x.cellAt(0, 't');
        seen[heat]++;
        int content = x.cellAt(0, 'i');
        int hours = x.drive(0, 10, 1);
        char letter = heat > 80 ? 'o' : heat > 60 ? 'l' : heat > 40 ? 'w' : '-';
        check.isLetter("stage by " + heat, x.stage(0), letter);
        check.is("hours by " + heat, hours, heat > 80 ? 0 : 1);
        int sent = heat > 80 ? 0 : heat > 60 ? 5 : 10;
        check.is("sent by " + heat, x.cellAt(0, 'i') - content, sent);
      }
    }
    for (int heat : new int[] {40, 41, 60, 61, 80, 81}) {
      check.yes("heat " + heat + " was seen", seen[heat] > 0);
    }
  }

  private static void offTillSetOn() {
    CoatLine x = Works.packed(8, 8);
    check.no("it is on", x.on(0));
    check.is("the third hour is not driven", x.drive(0, 30, 5), 2);
    check.isLetter("off", x.stage(0), 'o');
    check.is("heat", x.cellAt(0, 't'), 95);
    check.is("in", x.cellAt(0, 'i'), 60);
    check.is("state", x.state(0), 60);
    check.refuses("off", Works.UNSUPPORTED, x, () -> x.drive(0, 1, 1));
    check.refuses("off, out of range", Works.ARGUMENT, x, () -> x.drive(0, 1, 0));
    check.is("it rests though", x.rest(0, 1), 72);
    check.isLetter("a rest makes it none", x.stage(0), '-');
    check.refuses("still off", Works.UNSUPPORTED, x, () -> x.drive(0, 1, 1));
    check.yes("it was off", x.on(0));
    check.no("it is on again", x.on(0));
    check.is("driven again", x.drive(0, 30, 1), 1);
    check.isLetter("above 60", x.stage(0), 'l');
    check.is("halved", x.cellAt(0, 'i'), 75);
    CoatLine y = Works.packed(8, 8);
    y.drive(0, 30, 2);
    check.is("off at once", y.drive(0, 0, 5), 0);
    check.yes("it was off", y.on(0));
    check.isLetter("set on it keeps its letter", y.stage(0), 'o');
    check.is("still too hot", y.drive(0, 0, 5), 0);
    check.yes("off again", y.on(0));
  }

  /** Full cells, as hot as their first charge and so many hours of rest leave them. */
  private static CoatLine fullAndHot(int rests) {
    CoatLine x = Works.wet(50, 4, 4);
    x.protocol(30, 20);
    x.form(0, 0, 0);
    x.form(1, 0, 1);
    x.pass(20);
    x.bounds(0, 0, 99);
    x.module(2, 'a');
    x.pack(0, -1);
    x.rest(0, rests);
    return x;
  }

  private static void tooHotThoughFull() {
    CoatLine x = fullAndHot(1);
    check.is("full", x.cellAt(0, 'i'), x.cellAt(0, 'h'));
    check.is("198 less a quarter", x.cellAt(0, 't'), 149);
    check.is("no hour", x.drive(0, 10, 1), 0);
    check.isLetter("too hot is looked at first", x.stage(0), 'o');
    check.yes("it was off", x.on(0));
    CoatLine y = fullAndHot(4);
    check.is("above 60", y.cellAt(0, 't'), 63);
    check.is("no hour", y.drive(0, 10, 1), 0);
    check.isLetter("full is the last letter", y.stage(0), 'f');
    check.no("it was not off", y.on(0));
  }

  private static void fullEndsADrive() {
    CoatLine x = Works.packed(4, 9);
    check.is("177 by 10", x.drive(0, 10, 40), 18);
    check.isLetter("full", x.stage(0), 'f');
    check.is("the first one is", x.cellAt(0, 'i'), 177);
    check.is("the other one is not", x.cellAt(1, 'i'), 180);
    check.no("for that drive alone", x.on(0));
    check.is("no hour in", x.drive(0, 1, 3), 0);
    check.isLetter("full again", x.stage(0), 'f');
    check.is("none needs room without a current", x.drive(0, 0, 3), 3);
    check.isLetter("an hour without a letter", x.stage(0), '-');
    check.is("out it goes", x.drive(0, -10, 3), 3);
    check.is("out it went", x.cellAt(0, 'i'), 147);
  }

  private static void emptyEndsADrive() {
    CoatLine x = Works.packed(4, 9);
    check.is("empty at first", x.drive(0, -1, 5), 0);
    check.isLetter("empty", x.stage(0), 'e');
    check.no("for that drive alone", x.on(0));
    check.is("no heat", x.rest(0, 1), 0);
    check.is("empty is enough without a current", x.drive(0, 0, 3), 3);
    check.isLetter("an hour without a letter", x.stage(0), '-');
    check.is("in it goes", x.drive(0, 10, 2), 2);
    check.isLetter("an hour without a letter", x.stage(0), '-');
    check.is("out it goes", x.drive(0, -8, 40), 3);
    check.isLetter("empty again", x.stage(0), 'e');
    check.is("nothing in it", x.cellAt(1, 'i'), 0);
    check.is("throughput", x.cellAt(1, 'u'), 40);
  }

  private static void halvedToNothing() {
    CoatLine x = fullAndHot(4);
    int full = x.cellAt(0, 'i');
    check.is("halved to 0 it does not go in", x.drive(0, 1, 1), 1);
    check.isLetter("stage", x.stage(0), 'l');
    check.is("heat of an hour without a current", x.cellAt(0, 't'), 48);
    check.is("nothing was reckoned", x.state(0), 0);
    check.is("what is in it", x.cellAt(0, 'i'), full);
  }

  private static void drivesAllCells() {
    CoatLine x = Works.ready(50, 9, 4, 9, 4);
    x.bounds(0, 0, 99);
    x.module(2, 'a');
    x.module(2, 'a');
    x.pack(1, 0);
    x.drive(0, 5, 3);
    for (int cell = 0; cell < 4; cell++) {
      check.is("in cell " + cell, x.cellAt(cell, 'i'), 15);
    }
    x.doubt(0, 9, 9);
    check.yes("one of the second module", x.isRecalled(0));
    x.clear(0);
    check.is("by the least of all", x.drive(0, 10, 40), 17);
    check.isLetter("full", x.stage(0), 'f');
    check.is("state within the least hold", x.state(0), 177);
    CoatLine y = Works.slit(50, 1);
    y.wind(0, 1, 8);
    y.dew(0);
    y.wind(0, 1, 8);
    Works.packWound(y, 2);
    y.drive(0, 24, 1);
    check.is("a heat of 34", y.cellAt(0, 't'), 34);
    check.is("the hottest", y.cellAt(1, 't'), 46);
    y.drive(0, 0, 1);
    check.isLetter("stage by the hottest", y.stage(0), 'w');
    check.is("heat of the hottest", y.rest(0, 1), 27);
    CoatLine z = Works.wet(50, 8, 8);
    z.protocol(26, 1);
    z.protocol(0, 1);
    z.form(0, 0, 0);
    z.form(1, 1, 1);
    z.pass(1);
    z.bounds(0, 0, 99);
    z.module(2, 'a');
    z.pack(0, -1);
    check.is("the first one the hottest", z.rest(0, 1), 30);
  }

  private static void drivePlates() {
    CoatLine x = Works.packed(4, 4);
    x.room(-10);
    check.isLetter("a sort", x.sort(0), 'a');
    x.drive(0, 20, 1);
    check.yes("plated", x.isPlated(0));
    check.yes("plated too", x.isPlated(1));
    check.is("holds 2 less", x.cellAt(0, 'h'), 176);
    check.isLetter("no longer of a sort", x.sort(0), 'x');
    check.is("in a module still", x.cellOf(0, 0), 0);
    CoatLine y = Works.packed(4, 4);
    y.drive(0, 20, 1);
    y.room(-20);
    y.drive(0, -20, 1);
    y.rest(0, 1);
    check.no("not by what goes out", y.isPlated(0));
  }

  private static void restCools() {
    CoatLine x = Works.packed(8, 8);
    x.drive(0, 30, 1);
    check.is("54 less a quarter", x.rest(0, 1), 41);
    check.is("twice more", x.rest(0, 2), 24);
    check.is("heat", x.cellAt(1, 't'), 24);
    check.is("in it", x.cellAt(0, 'i'), 30);
    check.is("40 hours", x.rest(0, 40), 3);
    x.doubt(0, 0, 0);
    check.is("recalled it rests", x.rest(0, 1), 3);
  }

  private static void restRefused() {
    CoatLine x = Works.packed(4, 4);
    x.offset(0, 1);
    check.refuses("pack 1", Works.INDEX, x, () -> x.rest(1, 0));
    check.refuses("pack -1", Works.INDEX, x, () -> x.rest(-1, 1));
    check.refuses("0 hours", Works.ARGUMENT, x, () -> x.rest(0, 0));
    check.refuses("41 hours", Works.ARGUMENT, x, () -> x.rest(0, 41));
    check.is("no hour went by", x.state(0), 0);
    x.drive(0, -1, 1);
    check.refuses("0 hours", Works.ARGUMENT, x, () -> x.rest(0, 0));
    check.isLetter("stage as it was", x.stage(0), 'e');
  }

  private static void stateIsReckoned() {
    CoatLine x = Works.packed(8, 8);
    check.is("at first", x.state(0), 0);
    x.drive(0, 10, 3);
    check.is("as it goes in", x.state(0), 30);
    x.offset(0, 3);
    x.drive(0, 10, 2);
    check.is("with its offset", x.state(0), 56);
    x.rest(0, 4);
    check.is("at rest", x.state(0), 68);
    x.offset(0, -5);
    x.drive(0, -10, 2);
    check.is("as it goes out", x.state(0), 38);
    check.is("what is in it", x.cellAt(0, 'i'), 30);
  }

  private static void stateStaysWithin() {
    CoatLine x = Works.packed(2, 9);
    x.offset(0, 5);
    check.is("holds", x.cellAt(0, 'h'), 88);
    x.rest(0, 17);
    check.is("85", x.state(0), 85);
    x.rest(0, 1);
    check.is("the least hold", x.state(0), 88);
    x.room(-10);
    x.drive(0, 10, 1);
    check.is("the least hold behind the hour", x.state(0), 87);
    x.room(20);
    x.offset(0, -5);
    x.rest(0, 17);
    check.is("2", x.state(0), 2);
    x.rest(0, 1);
    check.is("no less than 0", x.state(0), 0);
  }

  private static void recountTakesItAnew() {
    CoatLine x = Works.wet(50, 8, 8);
    x.protocol(10, 4);
    x.protocol(10, 3);
    x.form(0, 0, 0);
    x.form(1, 1, 1);
    x.pass(4);
    x.bounds(0, 0, 99);
    x.module(2, 'a');
    x.pack(0, -1);
    check.is("too low", x.recount(0), -30);
    check.is("the least in a cell", x.state(0), 30);
    check.is("not off", x.recount(0), 0);
    x.offset(0, 4);
    x.drive(0, 10, 2);
    check.is("too high", x.recount(0), 8);
    check.is("the least in a cell", x.state(0), 50);
    check.is("nothing was taken out", x.cellAt(0, 'i'), 60);
  }

  private static void balanceTakesOut() {
    CoatLine x = Works.wet(50, 8, 8, 8);
    x.protocol(10, 4);
    x.protocol(10, 3);
    x.protocol(9, 5);
    x.form(0, 0, 0);
    x.form(1, 1, 1);
    x.form(2, 2, 2);
    x.pass(5);
    x.bounds(0, 0, 99);
    x.module(3, 'a');
    x.pack(0, -1);
    x.recount(0);
    check.is("10 and 15", x.balance(0), 25);
    for (int cell = 0; cell < 3; cell++) {
      check.is("in cell " + cell, x.cellAt(cell, 'i'), 30);
    }
    check.is("throughput stays", x.cellAt(2, 'u'), 45);
    check.is("state stays", x.state(0), 30);
    check.is("nothing given back", x.givenBack(), 0);
    check.is("balanced", x.balance(0), 0);
  }

  private static void noAgingInAPack() {
    CoatLine x = Works.ready(50, 8, 8, 8, 8);
    x.bounds(0, 0, 99);
    x.module(2, 'a');
    x.module(2, 'a');
    x.pack(0, -1);
    x.drive(0, 10, 5);
    x.pass(480);
    check.is("in the pack", x.cellAt(0, 'i'), 50);
    check.is("held in the pack", x.cellAt(0, 'h'), 358);
    check.is("held in a module alone", x.cellAt(2, 'h'), 356);
    CoatLine y = Works.wet(50, 8, 8);
    y.protocol(10, 4);
    y.form(0, 0, 0);
    y.form(1, 0, 1);
    y.pass(4);
    y.module(2, 'a');
    y.pass(24);
    check.is("in a module alone", y.cellAt(0, 'i'), 39);
    y.pack(0, -1);
    y.pass(24);
    check.is("in a pack then", y.cellAt(0, 'i'), 39);
  }

  private static void driveTakesNoTime() {
    CoatLine x = Works.packed(8, 8);
    int before = x.time();
    x.drive(0, 1, 20);
    x.rest(0, 30);
    check.is("time", x.time(), before);
  }

  private static void noSuchPack() {
    CoatLine x = Works.packed(4, 4);
    for (int pack : new int[] {-1, 1, Integer.MAX_VALUE}) {
      check.refuses("on " + pack, Works.INDEX, x, () -> x.on(pack));
      check.refuses("stage " + pack, Works.INDEX, x, () -> x.stage(pack));
      check.refuses("state " + pack, Works.INDEX, x, () -> x.state(pack));
      check.refuses("recount " + pack, Works.INDEX, x, () -> x.recount(pack));
      check.refuses("balance " + pack, Works.INDEX, x, () -> x.balance(pack));
      check.refuses("isRecalled " + pack, Works.INDEX, x, () -> x.isRecalled(pack));
    }
  }
}
