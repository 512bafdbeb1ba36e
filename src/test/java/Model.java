import java.util.ArrayList;
import java.util.List;
import java.util.NoSuchElementException;
import java.util.TreeSet;

/**
 * The document once more, in the slowest and plainest way: time hour by hour, coverage and sisters
 * metre by metre, a module by looking at every choice. RandomRunsTest holds the class
 * against it.
 */
final class Model {
  private static final class Metre {
    int weight;
    char mark = '-';
  }

  private static final class Coil {
    int lot;
    final List<Metre> metres = new ArrayList<>();
    int pressure;
    boolean slit;
  }

  private static final class Ribbon {
    int coil;
    int burr;
    int next;
  }

  private static final class Cell {
    final List<Integer> positives = new ArrayList<>();
    final List<Integer> negatives = new ArrayList<>();
    int ribbonP;
    int ribbonN;
    int base;
    int hold;
    int in;
    int resistance;
    int heat;
    int throughput;
    int wet;
    int damp;
    boolean isShort;
    boolean filled;
    boolean formed;
    boolean plated;
    boolean everCovered;
    int ready;
    int module = -1;

    void settle() {
      hold = Math.max(1, hold);
      in = Math.min(in, hold);
    }
  }

  private final List<int[]> lots = new ArrayList<>();
  private final List<Coil> coils = new ArrayList<>();
  private final List<Ribbon> ribbons = new ArrayList<>();
  private final List<Cell> cells = new ArrayList<>();
  private final List<List<int[]>> protocols = new ArrayList<>();
  private final List<List<Integer>> modules = new ArrayList<>();
  private final List<int[]> packs = new ArrayList<>();
  private final List<List<Integer>> cellsOfPacks = new ArrayList<>();
  private final List<int[]> doubts = new ArrayList<>();
  private final int[] taken = new int[4];
  private int drift = 0;
  private int run = 0;
  private int wear = 0;
  private int gap = 4;
  private int dew = -40;
  private int room = 20;
  private int hour = 0;
  private int back = 0;
  private int[] bounds = {100, 60, 14};

  // What a pack's array holds.
  private static final int OFFSET = 0;
  private static final int STATE = 1;
  private static final int OFF = 2;
  private static final int STAGE = 3;

  /** Tells how many there are of what a letter stands for in RandomRunsTest. */
  int have(char what) {
    List<?> list = what == 'l' ? lots : what == 'c' ? coils : what == 'r' ? ribbons
        : what == 'x' ? cells : what == 'p' ? protocols : what == 'u' ? modules
        : what == 'a' ? packs : doubts;
    return list.size();
  }

  private static void range(int number, int least, int most) {
    argument(number < least || number > most);
  }

  private static void argument(boolean isWrong) {
    if (isWrong) {
      throw new IllegalArgumentException();
    }
  }

  private static void index(int number, List<?> list) {
    if (number < 0 || number >= list.size()) {
      throw new IndexOutOfBoundsException();
    }
  }

  private static void state(boolean isWrong) {
    if (isWrong) {
      throw new IllegalStateException();
    }
  }

  private static void unsupported(boolean isWrong) {
    if (isWrong) {
      throw new UnsupportedOperationException();
    }
  }

  private static void element(boolean isWrong) {
    if (isWrong) {
      throw new NoSuchElementException();
    }
  }

  int lot(char kind, int strength, int amount) {
    argument("pn".indexOf(kind) < 0);
    range(strength, 50, 150);
    range(amount, 1, 999);
    state(lots.size() == 8);
    lots.add(new int[] {kind, strength, amount});
    return lots.size() - 1;
  }

  int left(int lot) {
    index(lot, lots);
    return lots.get(lot)[2];
  }

  int drift(int metres) {
    range(metres, 0, 99);
    int before = drift;
    drift = metres;
    return before;
  }

  int reset() {
    int before = run;
    run = 0;
    return before;
  }

  int coat(int lot, int metres, int weight) {
    index(lot, lots);
    range(metres, 10, 200);
    range(weight, 10, 90);
    int used = metres * weight / 100 + 1;
    unsupported(used > lots.get(lot)[2]);
    state(coils.size() == 10);
    lots.get(lot)[2] -= used;
    Coil coil = new Coil();
    coil.lot = lot;
    for (int i = 0; i < metres; i++) {
      Metre metre = new Metre();
      metre.weight = weight + (drift == 0 ? 0 : run / drift);
      coil.metres.add(metre);
      run++;
    }
    coils.add(coil);
    return coils.size() - 1;
  }

  private Metre metre(int coil, int metre) {
    index(coil, coils);
    index(metre, coils.get(coil).metres);
    return coils.get(coil).metres.get(metre);
  }

  int weight(int coil, int metre) {
    return metre(coil, metre).weight;
  }

  char mark(int coil, int metre, char mark) {
    Metre marked = metre(coil, metre);
    argument("scb-".indexOf(mark) < 0);
    unsupported(coils.get(coil).slit);
    char before = marked.mark;
    marked.mark = mark;
    return before;
  }

  int press(int coil, int pressure) {
    index(coil, coils);
    range(pressure, 0, 100);
    unsupported(coils.get(coil).slit);
    int before = coils.get(coil).pressure;
    coils.get(coil).pressure = pressure;
    return before;
  }

  int thickness(int coil, int metre) {
    return metre(coil, metre).weight * 200 / (100 + coils.get(coil).pressure);
  }

  int slit(int coil, int many) {
    index(coil, coils);
    range(many, 1, 4);
    unsupported(coils.get(coil).slit);
    state(ribbons.size() + many > 16);
    for (int i = 0; i < many; i++) {
      Ribbon ribbon = new Ribbon();
      ribbon.coil = coil;
      ribbon.burr = wear / 200;
      ribbons.add(ribbon);
    }
    coils.get(coil).slit = true;
    wear += coils.get(coil).metres.size();
    return ribbons.size() - many;
  }

  int sharpen() {
    int before = wear;
    wear = 0;
    return before;
  }

  int burr(int ribbon) {
    index(ribbon, ribbons);
    return ribbons.get(ribbon).burr;
  }

  int next(int ribbon) {
    index(ribbon, ribbons);
    return ribbons.get(ribbon).next;
  }

  int gap(int wide) {
    range(wide, 0, 9);
    int before = gap;
    gap = wide;
    return before;
  }

  int dew(int point) {
    range(point, -60, 0);
    int before = dew;
    dew = point;
    return before;
  }

  private int first(int ribbon, int length) {
    Ribbon from = ribbons.get(ribbon);
    List<Metre> metres = coils.get(from.coil).metres;
    for (int start = from.next; start + length <= metres.size(); start++) {
      boolean isClean = true;
      for (int i = start; i < start + length; i++) {
        isClean &= metres.get(i).mark == '-';
      }
      if (isClean) {
        return start;
      }
    }
    return -1;
  }

  private char kindOf(int ribbon) {
    return (char) lots.get(coils.get(ribbons.get(ribbon).coil).lot)[0];
  }

  int wind(int positive, int negative, int length) {
    index(positive, ribbons);
    index(negative, ribbons);
    range(length, 2, 40);
    argument(kindOf(positive) != 'p');
    argument(kindOf(negative) != 'n');
    int startP = first(positive, length);
    int startN = first(negative, length + 1);
    unsupported(startP < 0);
    unsupported(startN < 0);
    state(cells.size() == 24);
    Cell cell = new Cell();
    cell.ribbonP = positive;
    cell.ribbonN = negative;
    Ribbon ribbonP = ribbons.get(positive);
    Ribbon ribbonN = ribbons.get(negative);
    for (int i = 0; i < length; i++) {
      cell.positives.add(1000 * ribbonP.coil + startP + i);
    }
    for (int i = 0; i <= length; i++) {
      cell.negatives.add(1000 * ribbonN.coil + startN + i);
    }
    ribbonP.next = startP + length;
    ribbonN.next = startN + length + 1;
    cell.base = Math.min(sum(cell.positives, length), sum(cell.negatives, length));
    cell.hold = cell.base;
    cell.damp = (dew + 60) / 10;
    int apart = thickness(ribbonP.coil, startP) - thickness(ribbonN.coil, startN);
    cell.resistance = 10 + cell.damp + (apart < 0 ? -apart : apart);
    cell.isShort = ribbonP.burr + ribbonN.burr > gap;
    cells.add(cell);
    cover();
    return cells.size() - 1;
  }

  private int sum(List<Integer> metres, int many) {
    int sum = 0;
    for (int i = 0; i < many; i++) {
      sum += metre(metres.get(i) / 1000, metres.get(i) % 1000).weight;
    }
    return sum * lots.get(coils.get(metres.get(0) / 1000).lot)[1] / 100;
  }

  private Cell cell(int cell) {
    index(cell, cells);
    return cells.get(cell);
  }

  int cellAt(int cell, char what) {
    Cell asked = cell(cell);
    int place = "hirtuwbd".indexOf(what);
    argument(place < 0);
    return new int[] {asked.hold, asked.in, asked.resistance, asked.heat, asked.throughput,
        asked.wet, asked.base, asked.damp}[place];
  }

  boolean isShort(int cell) {
    return cell(cell).isShort;
  }

  boolean isPlated(int cell) {
    return cell(cell).plated;
  }

  int traced(int cell, boolean isPositive, int index) {
    List<Integer> metres = isPositive ? cell(cell).positives : cell(cell).negatives;
    element(index < 0 || index >= metres.size());
    return metres.get(index);
  }

  int fill(int cell, int steps) {
    Cell filled = cell(cell);
    range(steps, 1, 4);
    unsupported(filled.filled || filled.isShort || isCovered(cell));
    filled.filled = true;
    filled.wet = 15 * steps;
    return filled.wet;
  }

  int pass(int hours) {
    range(hours, 1, 500);
    state(hour + hours > 9999);
    for (int i = 0; i < hours; i++) {
      hour++;
      for (Cell cell : cells) {
        passHour(cell);
      }
    }
    return hour;
  }

  private void passHour(Cell cell) {
    if (cell.filled) {
      cell.wet = Math.min(100, cell.wet + 2);
    }
    int since = hour - cell.ready;
    if (!cell.formed || since <= 0 || isPacked(cell.module)) {
      return;
    }
    if (since % 24 == 0) {
      int burrs = ribbons.get(cell.ribbonP).burr + ribbons.get(cell.ribbonN).burr;
      cell.in = Math.max(0, cell.in - 1 - burrs / 2 - burrs % 2);
    }
    if (since % 240 == 0) {
      cell.hold--;
      cell.settle();
    }
  }

  private boolean isPacked(int module) {
    for (List<Integer> pack : cellsOfPacks) {
      for (int cell : pack) {
        if (module >= 0 && cells.get(cell).module == module) {
          return true;
        }
      }
    }
    return false;
  }

  int room(int degrees) {
    range(degrees, -20, 40);
    int before = room;
    room = degrees;
    return before;
  }

  int protocol(int current, int hours) {
    range(current, -30, 30);
    range(hours, 1, 20);
    state(protocols.size() == 4);
    protocols.add(new ArrayList<>());
    protocols.get(protocols.size() - 1).add(new int[] {current, hours});
    return protocols.size() - 1;
  }

  int step(int protocol, int current, int hours) {
    index(protocol, protocols);
    range(current, -30, 30);
    range(hours, 1, 20);
    state(protocols.get(protocol).size() == 6);
    protocols.get(protocol).add(new int[] {current, hours});
    return protocols.get(protocol).size();
  }

  int form(int cell, int protocol, int channel) {
    Cell formed = cell(cell);
    index(protocol, protocols);
    freeAt(channel);
    unsupported(formed.formed || !formed.filled || formed.wet < 50 || isCovered(cell));
    formed.formed = true;
    formed.hold -= formed.base / 10;
    formed.hold -= (100 - formed.wet) / 20;
    formed.hold -= formed.damp;
    formed.settle();
    formed.ready = freeAt(channel);
    for (int[] step : protocols.get(protocol)) {
      formed.ready += step[1];
      for (int i = 1; i <= step[1]; i++) {
        int ahead = formed.throughput;
        hourOf(formed, step[0]);
        int went = formed.throughput - ahead;
        back += step[0] < 0 ? went : 0;
        if (went == 0 && i >= 2) {
          break;
        }
      }
    }
    taken[channel] = formed.ready;
    return formed.ready;
  }

  private void hourOf(Cell cell, int current) {
    int warmer = current * current * cell.resistance / 200;
    int cooler = cell.heat / 4;
    if (current > 0 && room + cell.heat / 10 < 0) {
      cell.plated = true;
      for (int left = current; left > 0; left -= 10) {
        cell.hold--;
      }
      cell.settle();
    }
    int went = 0;
    while (current > 0 && went < current && cell.in < cell.hold) {
      cell.in++;
      went++;
    }
    while (current < 0 && went < -current && cell.in > 0) {
      cell.in--;
      went++;
    }
    cell.heat += warmer - cooler;
    for (int i = 0; i < went; i++) {
      cell.throughput++;
      if (cell.throughput % 100 == 0) {
        cell.hold--;
        cell.resistance++;
      }
    }
    cell.settle();
  }

  int freeAt(int channel) {
    if (channel < 0 || channel > 3) {
      throw new IndexOutOfBoundsException();
    }
    return taken[channel] > hour ? taken[channel] : hour;
  }

  int givenBack() {
    return back;
  }

  int bounds(int first, int second, int limit) {
    argument(first < 0 || second < 0 || limit < 0 || second > first || limit > 99);
    int before = bounds[0];
    bounds = new int[] {first, second, limit};
    return before;
  }

  private boolean isReady(Cell cell) {
    return cell.formed && cell.ready <= hour;
  }

  char sort(int number) {
    Cell cell = cell(number);
    if (!isReady(cell)) {
      return '-';
    }
    if (cell.plated || cell.everCovered) {
      return 'x';
    }
    if (cell.hold < bounds[1]) {
      return 'c';
    }
    return cell.hold < bounds[0] || cell.resistance > bounds[2] ? 'b' : 'a';
  }

  int module(int count, char sort) {
    range(count, 2, 6);
    argument(sort != 'a' && sort != 'b');
    List<Integer> free = new ArrayList<>();
    for (int cell = 0; cell < cells.size(); cell++) {
      if (cells.get(cell).module < 0 && sort(cell) == sort) {
        free.add(cell);
      }
    }
    element(free.size() < count);
    state(modules.size() == 6);
    List<Integer> best = new ArrayList<>();
    choose(free, 0, new ArrayList<>(), count, best);
    for (int cell : best) {
      cells.get(cell).module = modules.size();
    }
    modules.add(best);
    return modules.size() - 1;
  }

  // The choices come by their numbers, so that of like ones the first is the one to keep.
  private void choose(List<Integer> free, int from, List<Integer> chosen, int count,
      List<Integer> best) {
    if (chosen.size() == count) {
      if (best.isEmpty() || isBetter(chosen, best)) {
        best.clear();
        best.addAll(chosen);
      }
      return;
    }
    for (int i = from; i < free.size(); i++) {
      chosen.add(free.get(i));
      choose(free, i + 1, chosen, count, best);
      chosen.remove(chosen.size() - 1);
    }
  }

  private boolean isBetter(List<Integer> one, List<Integer> other) {
    int apart = spread(one) - spread(other);
    return apart < 0 || apart == 0 && together(one) < together(other);
  }

  private int together(List<Integer> members) {
    int sum = 0;
    for (int cell : members) {
      sum += cells.get(cell).hold;
    }
    return sum;
  }

  private TreeSet<Integer> holds(List<Integer> members) {
    TreeSet<Integer> holds = new TreeSet<>();
    for (int cell : members) {
      holds.add(cells.get(cell).hold);
    }
    return holds;
  }

  private int spread(List<Integer> members) {
    return holds(members).last() - holds(members).first();
  }

  int cellOf(int module, int index) {
    index(module, modules);
    element(index < 0 || index >= modules.get(module).size());
    return modules.get(module).get(index);
  }

  int spread(int module) {
    index(module, modules);
    return spread(modules.get(module));
  }

  int pack(int module, int other) {
    index(module, modules);
    if (other != -1) {
      index(other, modules);
    }
    argument(module == other);
    List<Integer> members = new ArrayList<>(modules.get(module));
    unsupported(isPacked(module));
    if (other != -1) {
      unsupported(isPacked(other));
      members.addAll(modules.get(other));
    }
    for (int cell : members) {
      unsupported(isCovered(cell));
    }
    state(packs.size() == 4);
    packs.add(new int[] {0, 0, 0, '-'});
    cellsOfPacks.add(members);
    return packs.size() - 1;
  }

  int offset(int pack, int offset) {
    index(pack, packs);
    range(offset, -5, 5);
    int before = packs.get(pack)[OFFSET];
    packs.get(pack)[OFFSET] = offset;
    return before;
  }

  int drive(int pack, int current, int hours) {
    index(pack, packs);
    range(current, -30, 30);
    range(hours, 1, 40);
    int[] manager = packs.get(pack);
    unsupported(manager[OFF] == 1 || isRecalled(pack));
    for (int done = 0; done < hours; done++) {
      int heat = hottest(pack);
      int sent = heat > 60 ? current / 2 : current;
      boolean isFull = false;
      boolean isEmpty = false;
      for (int cell : cellsOfPacks.get(pack)) {
        isFull |= cells.get(cell).in == cells.get(cell).hold;
        isEmpty |= cells.get(cell).in == 0;
      }
      if (heat > 80) {
        manager[OFF] = 1;
        manager[STAGE] = 'o';
        return done;
      }
      if (sent > 0 && isFull || sent < 0 && isEmpty) {
        manager[STAGE] = sent > 0 ? 'f' : 'e';
        return done;
      }
      manager[STAGE] = heat > 60 ? 'l' : heat > 40 ? 'w' : '-';
      hourOfPack(pack, sent);
    }
    return hours;
  }

  private int hottest(int pack) {
    int heat = 0;
    for (int cell : cellsOfPacks.get(pack)) {
      heat = Math.max(heat, cells.get(cell).heat);
    }
    return heat;
  }

  private void hourOfPack(int pack, int current) {
    int[] manager = packs.get(pack);
    for (int cell : cellsOfPacks.get(pack)) {
      hourOf(cells.get(cell), current);
    }
    int least = holds(cellsOfPacks.get(pack)).first();
    manager[STATE] += current + manager[OFFSET];
    manager[STATE] = manager[STATE] > least ? least : manager[STATE] < 0 ? 0 : manager[STATE];
  }

  int rest(int pack, int hours) {
    index(pack, packs);
    range(hours, 1, 40);
    for (int i = 0; i < hours; i++) {
      hourOfPack(pack, 0);
    }
    packs.get(pack)[STAGE] = '-';
    return hottest(pack);
  }

  boolean on(int pack) {
    index(pack, packs);
    boolean before = packs.get(pack)[OFF] == 1;
    packs.get(pack)[OFF] = 0;
    return before;
  }

  char stage(int pack) {
    index(pack, packs);
    return (char) packs.get(pack)[STAGE];
  }

  int state(int pack) {
    index(pack, packs);
    return packs.get(pack)[STATE];
  }

  private int leastIn(int pack) {
    TreeSet<Integer> contents = new TreeSet<>();
    for (int cell : cellsOfPacks.get(pack)) {
      contents.add(cells.get(cell).in);
    }
    return contents.first();
  }

  int recount(int pack) {
    index(pack, packs);
    int before = packs.get(pack)[STATE];
    packs.get(pack)[STATE] = leastIn(pack);
    return before - leastIn(pack);
  }

  int balance(int pack) {
    index(pack, packs);
    int least = leastIn(pack);
    int out = 0;
    for (int cell : cellsOfPacks.get(pack)) {
      while (cells.get(cell).in > least) {
        cells.get(cell).in--;
        out++;
      }
    }
    return out;
  }

  int doubt(int coil, int from, int to) {
    metre(coil, from);
    metre(coil, to);
    argument(to < from);
    return add('m', 1000 * coil + from, 1000 * coil + to);
  }

  int doubtAll(boolean isLot, int number) {
    if (isLot) {
      index(number, lots);
    } else {
      argument(number < 0);
    }
    return add(isLot ? 'l' : 'b', number, 0);
  }

  private int add(char kind, int from, int to) {
    state(doubts.size() == 8);
    doubts.add(new int[] {kind, from, to, 1});
    cover();
    return doubts.size() - 1;
  }

  private void cover() {
    for (int cell = 0; cell < cells.size(); cell++) {
      cells.get(cell).everCovered |= isCovered(cell);
    }
  }

  private boolean covers(int[] doubt, Cell cell) {
    List<Integer> metres = new ArrayList<>(cell.positives);
    metres.addAll(cell.negatives);
    for (int metre : metres) {
      boolean isOf = metre >= doubt[1] && metre <= doubt[2];
      boolean isOfLot = coils.get(metre / 1000).lot == doubt[1];
      if (doubt[0] == 'm' && isOf || doubt[0] == 'l' && isOfLot) {
        return true;
      }
    }
    int most = Math.max(ribbons.get(cell.ribbonP).burr, ribbons.get(cell.ribbonN).burr);
    return doubt[0] == 'b' && most >= doubt[1];
  }

  int clear(int doubt) {
    index(doubt, doubts);
    unsupported(doubts.get(doubt)[3] == 0);
    int before = covered();
    doubts.get(doubt)[3] = 0;
    return before - covered();
  }

  private int covered() {
    int covered = 0;
    for (int cell = 0; cell < cells.size(); cell++) {
      covered += isCovered(cell) ? 1 : 0;
    }
    return covered;
  }

  boolean isCovered(int cell) {
    boolean isCovered = false;
    for (int[] doubt : doubts) {
      isCovered |= doubt[3] == 1 && covers(doubt, cell(cell));
    }
    return cell(cell) != null && isCovered;
  }

  boolean isRecalled(int pack) {
    index(pack, packs);
    for (int cell : cellsOfPacks.get(pack)) {
      if (isCovered(cell)) {
        return true;
      }
    }
    return false;
  }

  int sisters(int cell) {
    cell(cell);
    int sisters = 0;
    for (int other = 0; other < cells.size(); other++) {
      sisters += isSister(cell, other) ? 1 : 0;
    }
    return sisters;
  }

  boolean isSister(int cell, int other) {
    Cell one = cell(cell);
    Cell two = cell(other);
    return cell != other
        && (areNear(one.positives, two.positives) || areNear(one.negatives, two.negatives));
  }

  // Metres of different coils are more than 5 apart here, as a coil has 200 of its 1000.
  private static boolean areNear(List<Integer> some, List<Integer> others) {
    for (int one : some) {
      for (int other : others) {
        if (Math.abs(one - other) <= 5) {
          return true;
        }
      }
    }
    return false;
  }

  int time() {
    return hour;
  }

  float readyShare() {
    if (cells.isEmpty()) {
      throw new ArithmeticException();
    }
    int ready = 0;
    for (Cell cell : cells) {
      ready += isReady(cell) ? 1 : 0;
    }
    return (float) ready / (float) cells.size();
  }

  double meanHold() {
    if (cells.isEmpty()) {
      throw new ArithmeticException();
    }
    int sum = 0;
    for (Cell cell : cells) {
      sum += cell.hold;
    }
    return (double) sum / (double) cells.size();
  }

  long checksum() {
    long sum = 7;
    for (Cell cell : cells) {
      for (int number : new int[] {cell.hold, cell.in, cell.resistance}) {
        sum = 31 * sum + number;
      }
    }
    return sum;
  }

  boolean isSound() {
    return true;
  }
}
