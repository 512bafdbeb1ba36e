import java.util.ArrayList;
import java.util.NoSuchElementException;

public final class CoatLine {
  private static final int MAX_LOTS = 8;
  private static final int MAX_COILS = 10;
  private static final int MAX_METRES = 200;
  private static final int MAX_RIBBONS = 16;
  private static final int MAX_CELLS = 24;
  private static final int MAX_PROTOCOLS = 4;
  private static final int MAX_STEPS = 6;
  private static final int CHANNELS = 4;
  private static final int MAX_MODULES = 6;
  private static final int MAX_PACKS = 4;
  private static final int MAX_DOUBTS = 8;
  private static final int LAST_HOUR = 9999;
  private static final int HOURS_TO_LOSE = 24;
  private static final int HOURS_TO_SHRINK = 240;
  private static final int WET = 100;
  private static final int WET_ENOUGH = 50;
  private static final int SISTER_METRES = 5;
  private static final int WARM = 40;
  private static final int HOT = 60;
  private static final int TOO_HOT = 80;
  private static final int ABOVE_ALL = 2147483647;
  private static final char UNMARKED = '-';
  private static final char NOT_READY = '-';
  private static final char QUIET = '-';

  private final ArrayList<Lot> lots = new ArrayList<>();
  private final ArrayList<Coil> coils = new ArrayList<>();
  private final ArrayList<Ribbon> ribbons = new ArrayList<>();
  private final ArrayList<Cell> cells = new ArrayList<>();
  private final ArrayList<Protocol> protocols = new ArrayList<>();
  private final ArrayList<CellModule> modules = new ArrayList<>();
  private final ArrayList<Pack> packs = new ArrayList<>();
  private final ArrayList<Doubt> doubts = new ArrayList<>();
  // Used again by each call of module(), so that no call needs a list of its own.
  private final ArrayList<Cell> candidates = new ArrayList<>();
  private final int[] channelTakenTo = new int[CHANNELS];
  private final Coater coater = new Coater();
  private int knifeWear = 0;
  private int gapWidth = 4;
  private int dewPoint = -40;
  private int degreesOfRoom = 20;
  private int hour = 0;
  private int sumGivenBack = 0;
  private int firstBound = 100;
  private int secondBound = 60;
  private int resistanceLimit = 14;

  public CoatLine() {
  }

  // ---- lots, coils, ribbons

  public int lot(char kind, int strength, int amount)
      throws IllegalArgumentException, IllegalStateException {
    if (kind != 'p' && kind != 'n') {
      throw new IllegalArgumentException("no such kind");
    }
    requireWithin(strength, 50, 150);
    requireWithin(amount, 1, 999);
    requireSpace(lots.size(), 1, MAX_LOTS);
    Lot added = new Lot(lots.size(), kind, strength, amount);
    lots.add(added);
    return added.number;
  }

  public int left(int lot) throws IndexOutOfBoundsException {
    return lotNumbered(lot).amount;
  }

  public int drift(int metres) throws IllegalArgumentException {
    requireWithin(metres, 0, 99);
    int before = coater.drift;
    coater.drift = metres;
    return before;
  }

  public int reset() {
    int before = coater.metresRun;
    coater.metresRun = 0;
    return before;
  }

  public int coat(int lot, int metres, int weight)
      throws IndexOutOfBoundsException, IllegalArgumentException, UnsupportedOperationException,
          IllegalStateException {
    Lot powder = lotNumbered(lot);
    requireWithin(metres, 10, MAX_METRES);
    requireWithin(weight, 10, 90);
    int used = metres * weight / 100 + 1;
    if (powder.amount < used) {
      throw new UnsupportedOperationException("not as much of the lot");
    }
    requireSpace(coils.size(), 1, MAX_COILS);
    Coil coil = new Coil(coils.size(), powder, metres);
    for (int metre = 0; metre < metres; metre++) {
      coil.setWeight(metre, weight + coater.runMetre());
    }
    powder.amount -= used;
    coils.add(coil);
    return coil.number;
  }

  public int weight(int coil, int metre) throws IndexOutOfBoundsException {
    return coilWithMetre(coil, metre).weightOf(metre);
  }

  public char mark(int coil, int metre, char mark)
      throws IndexOutOfBoundsException, IllegalArgumentException, UnsupportedOperationException {
    Coil marked = coilWithMetre(coil, metre);
    if (mark != 's' && mark != 'c' && mark != 'b' && mark != UNMARKED) {
      throw new IllegalArgumentException("no such mark");
    }
    requireNotSlit(marked);
    char before = marked.markOf(metre);
    marked.setMark(metre, mark);
    return before;
  }

  public int press(int coil, int pressure)
      throws IndexOutOfBoundsException, IllegalArgumentException, UnsupportedOperationException {
    Coil pressed = coilNumbered(coil);
    requireWithin(pressure, 0, 100);
    requireNotSlit(pressed);
    int before = pressed.pressure;
    pressed.pressure = pressure;
    return before;
  }

  public int thickness(int coil, int metre) throws IndexOutOfBoundsException {
    return coilWithMetre(coil, metre).thicknessOf(metre);
  }

  public int slit(int coil, int ribbons)
      throws IndexOutOfBoundsException, IllegalArgumentException, UnsupportedOperationException,
          IllegalStateException {
    Coil cut = coilNumbered(coil);
    requireWithin(ribbons, 1, 4);
    requireNotSlit(cut);
    requireSpace(this.ribbons.size(), ribbons, MAX_RIBBONS);
    int first = this.ribbons.size();
    for (int i = 0; i < ribbons; i++) {
      this.ribbons.add(new Ribbon(cut, knifeWear / 200));
    }
    cut.slit = true;
    knifeWear += cut.metres;
    return first;
  }

  public int sharpen() {
    int before = knifeWear;
    knifeWear = 0;
    return before;
  }

  public int burr(int ribbon) throws IndexOutOfBoundsException {
    return ribbonNumbered(ribbon).burr;
  }

  public int next(int ribbon) throws IndexOutOfBoundsException {
    return ribbonNumbered(ribbon).takenTo;
  }

  // ---- cells

  public int gap(int gap) throws IllegalArgumentException {
    requireWithin(gap, 0, 9);
    int before = gapWidth;
    gapWidth = gap;
    return before;
  }

  public int dew(int dew) throws IllegalArgumentException {
    requireWithin(dew, -60, 0);
    int before = dewPoint;
    dewPoint = dew;
    return before;
  }

  public int wind(int positive, int negative, int length)
      throws IndexOutOfBoundsException, IllegalArgumentException, UnsupportedOperationException,
          IllegalStateException {
    Ribbon ribbonP = ribbonNumbered(positive);
    Ribbon ribbonN = ribbonNumbered(negative);
    requireWithin(length, 2, 40);
    if (ribbonP.coil.lot.kind != 'p' || ribbonN.coil.lot.kind != 'n') {
      throw new IllegalArgumentException("a ribbon of the other kind");
    }
    int startP = ribbonP.startOfFree(length);
    int startN = ribbonN.startOfFree(length + 1);
    if (startP < 0 || startN < 0) {
      throw new UnsupportedOperationException("no such stretch");
    }
    requireSpace(cells.size(), 1, MAX_CELLS);
    Stretch metresP = ribbonP.take(startP, length);
    Stretch metresN = ribbonN.take(startN, length + 1);
    boolean isTooRough = ribbonP.burr + ribbonN.burr > gapWidth;
    Cell cell = new Cell(cells.size(), metresP, metresN, (dewPoint + 60) / 10, isTooRough);
    cell.wasCovered = isCoveredNow(cell);
    cells.add(cell);
    return cell.number;
  }

  public int cellAt(int cell, char what)
      throws IndexOutOfBoundsException, IllegalArgumentException {
    Cell asked = cellNumbered(cell);
    switch (what) {
      case 'h':
        return asked.hold;
      case 'i':
        return asked.content;
      case 'r':
        return asked.resistance;
      case 't':
        return asked.heat;
      case 'u':
        return asked.throughput;
      case 'w':
        return asked.wetness;
      case 'b':
        return asked.base;
      case 'd':
        return asked.damp;
      default:
        throw new IllegalArgumentException("no such thing");
    }
  }

  public boolean isShort(int cell) throws IndexOutOfBoundsException {
    return cellNumbered(cell).tooRough;
  }

  public boolean isPlated(int cell) throws IndexOutOfBoundsException {
    return cellNumbered(cell).plated;
  }

  public int traced(int cell, boolean isPositive, int index)
      throws IndexOutOfBoundsException, NoSuchElementException {
    Cell asked = cellNumbered(cell);
    Stretch stretch = isPositive ? asked.positive : asked.negative;
    if (index < 0 || index >= stretch.length) {
      throw new NoSuchElementException("no such metre");
    }
    return 1000 * stretch.ribbon.coil.number + stretch.start + index;
  }

  public int fill(int cell, int steps)
      throws IndexOutOfBoundsException, IllegalArgumentException, UnsupportedOperationException {
    Cell filled = cellNumbered(cell);
    requireWithin(steps, 1, 4);
    if (filled.filled || filled.tooRough || isCoveredNow(filled)) {
      throw new UnsupportedOperationException("filled, short, or covered");
    }
    filled.filled = true;
    filled.wetness = 15 * steps;
    return filled.wetness;
  }

  public int pass(int hours) throws IllegalArgumentException, IllegalStateException {
    requireWithin(hours, 1, 500);
    if (hour + hours > LAST_HOUR) {
      throw new IllegalStateException("above the last hour");
    }
    int before = hour;
    hour += hours;
    for (int i = 0; i < cells.size(); i++) {
      Cell cell = cells.get(i);
      cell.soak(hours);
      cell.age(before, hour);
    }
    return hour;
  }

  public int room(int degrees) throws IllegalArgumentException {
    requireWithin(degrees, -20, 40);
    int before = degreesOfRoom;
    degreesOfRoom = degrees;
    return before;
  }

  // ---- first charges and sorting

  public int protocol(int current, int hours)
      throws IllegalArgumentException, IllegalStateException {
    requireStep(current, hours);
    requireSpace(protocols.size(), 1, MAX_PROTOCOLS);
    Protocol added = new Protocol();
    added.addStep(current, hours);
    protocols.add(added);
    return protocols.size() - 1;
  }

  public int step(int protocol, int current, int hours)
      throws IndexOutOfBoundsException, IllegalArgumentException, IllegalStateException {
    Protocol longer = protocolNumbered(protocol);
    requireStep(current, hours);
    requireSpace(longer.steps, 1, MAX_STEPS);
    longer.addStep(current, hours);
    return longer.steps;
  }

  public int form(int cell, int protocol, int channel)
      throws IndexOutOfBoundsException, UnsupportedOperationException {
    Cell formed = cellNumbered(cell);
    Protocol charges = protocolNumbered(protocol);
    requireChannel(channel);
    boolean isWet = formed.filled && formed.wetness >= WET_ENOUGH;
    if (formed.formed || !isWet || isCoveredNow(formed)) {
      throw new UnsupportedOperationException("formed, not filled, too dry, or covered");
    }
    int end = freeHourOf(channel) + charges.hoursInAll();
    channelTakenTo[channel] = end;
    formed.formed = true;
    formed.readyAt = end;
    formed.growFilm();
    sumGivenBack += charges.runOn(formed, degreesOfRoom);
    return end;
  }

  public int freeAt(int channel) throws IndexOutOfBoundsException {
    requireChannel(channel);
    return freeHourOf(channel);
  }

  public int givenBack() {
    return sumGivenBack;
  }

  public int bounds(int first, int second, int limit) throws IllegalArgumentException {
    if (first < 0 || second < 0 || second > first) {
      throw new IllegalArgumentException("a bound below 0, or the second above the first");
    }
    requireWithin(limit, 0, 99);
    int before = firstBound;
    firstBound = first;
    secondBound = second;
    resistanceLimit = limit;
    return before;
  }

  public char sort(int cell) throws IndexOutOfBoundsException {
    return sortOf(cellNumbered(cell));
  }

  // ---- modules and packs

  public int module(int count, char sort)
      throws IllegalArgumentException, NoSuchElementException, IllegalStateException {
    requireWithin(count, 2, 6);
    if (sort != 'a' && sort != 'b') {
      throw new IllegalArgumentException("no such sort");
    }
    listCandidates(sort);
    if (candidates.size() < count) {
      throw new NoSuchElementException("not so many cells");
    }
    requireSpace(modules.size(), 1, MAX_MODULES);
    int first = startOfLeastSpread(count);
    CellModule made = new CellModule();
    for (int i = first; i < first + count && i < candidates.size(); i++) {
      candidates.get(i).module = made;
    }
    // Going by all cells brings the cells of the module in the order of their numbers.
    for (int i = 0; i < cells.size(); i++) {
      if (cells.get(i).module == made) {
        made.cells.add(cells.get(i));
      }
    }
    modules.add(made);
    return modules.size() - 1;
  }

  public int cellOf(int module, int index)
      throws IndexOutOfBoundsException, NoSuchElementException {
    CellModule asked = moduleNumbered(module);
    if (index < 0 || index >= asked.cells.size()) {
      throw new NoSuchElementException("no such cell");
    }
    return asked.cells.get(index).number;
  }

  public int spread(int module) throws IndexOutOfBoundsException {
    ArrayList<Cell> members = moduleNumbered(module).cells;
    return greatestHold(members) - leastHold(members);
  }

  public int pack(int module, int other)
      throws IndexOutOfBoundsException, IllegalArgumentException, UnsupportedOperationException,
          IllegalStateException {
    CellModule first = moduleNumbered(module);
    CellModule second = other == -1 ? null : moduleNumbered(other);
    if (module == other) {
      throw new IllegalArgumentException("both are the same");
    }
    requirePackable(first);
    if (second != null) {
      requirePackable(second);
    }
    requireSpace(packs.size(), 1, MAX_PACKS);
    Pack made = new Pack(first, second);
    first.packed = true;
    addAll(first.cells, made.cells);
    if (second != null) {
      second.packed = true;
      addAll(second.cells, made.cells);
    }
    packs.add(made);
    return packs.size() - 1;
  }

  public int offset(int pack, int offset)
      throws IndexOutOfBoundsException, IllegalArgumentException {
    Pack asked = packNumbered(pack);
    requireWithin(offset, -5, 5);
    int before = asked.currentOffset;
    asked.currentOffset = offset;
    return before;
  }

  public int drive(int pack, int current, int hours)
      throws IndexOutOfBoundsException, IllegalArgumentException, UnsupportedOperationException {
    Pack driven = packNumbered(pack);
    requireCurrent(current);
    requireWithin(hours, 1, 40);
    if (driven.off || isAnyCovered(driven.cells)) {
      throw new UnsupportedOperationException("off, or recalled");
    }
    for (int done = 0; done < hours; done++) {
      if (!driveHour(driven, current)) {
        return done;
      }
    }
    return hours;
  }

  public int rest(int pack, int hours)
      throws IndexOutOfBoundsException, IllegalArgumentException {
    Pack resting = packNumbered(pack);
    requireWithin(hours, 1, 40);
    for (int done = 0; done < hours; done++) {
      resting.lastLetter = QUIET;
      haveHour(resting, 0);
    }
    return greatestHeat(resting.cells);
  }

  public boolean on(int pack) throws IndexOutOfBoundsException {
    Pack asked = packNumbered(pack);
    boolean before = asked.off;
    asked.off = false;
    return before;
  }

  public char stage(int pack) throws IndexOutOfBoundsException {
    return packNumbered(pack).lastLetter;
  }

  public int state(int pack) throws IndexOutOfBoundsException {
    return packNumbered(pack).reckoned;
  }

  public int recount(int pack) throws IndexOutOfBoundsException {
    Pack asked = packNumbered(pack);
    int before = asked.reckoned;
    asked.reckoned = leastContent(asked.cells);
    return before - asked.reckoned;
  }

  public int balance(int pack) throws IndexOutOfBoundsException {
    ArrayList<Cell> members = packNumbered(pack).cells;
    int least = leastContent(members);
    int taken = 0;
    for (int i = 0; i < members.size(); i++) {
      Cell cell = members.get(i);
      taken += cell.content - least;
      cell.content = least;
    }
    return taken;
  }

  // ---- doubts

  public int doubt(int coil, int from, int to)
      throws IndexOutOfBoundsException, IllegalArgumentException, IllegalStateException {
    coilWithMetre(coil, from);
    coilWithMetre(coil, to);
    if (to < from) {
      throw new IllegalArgumentException("the last one is less");
    }
    return addDoubt(new Doubt('m', coil, from, to));
  }

  public int doubtAll(boolean isLot, int number)
      throws IndexOutOfBoundsException, IllegalArgumentException, IllegalStateException {
    if (isLot) {
      lotNumbered(number);
    } else if (number < 0) {
      throw new IllegalArgumentException("a burr below 0");
    }
    return addDoubt(new Doubt(isLot ? 'l' : 'b', number, 0, 0));
  }

  public int clear(int doubt) throws IndexOutOfBoundsException, UnsupportedOperationException {
    if (doubt < 0 || doubt >= doubts.size()) {
      throw new IndexOutOfBoundsException("no such doubt");
    }
    Doubt asked = doubts.get(doubt);
    if (asked.cleared) {
      throw new UnsupportedOperationException("cleared");
    }
    asked.cleared = true;
    int uncovered = 0;
    for (int i = 0; i < cells.size(); i++) {
      Cell cell = cells.get(i);
      if (asked.reaches(cell) && !isCoveredNow(cell)) {
        uncovered++;
      }
    }
    return uncovered;
  }

  public boolean isCovered(int cell) throws IndexOutOfBoundsException {
    return isCoveredNow(cellNumbered(cell));
  }

  public boolean isRecalled(int pack) throws IndexOutOfBoundsException {
    return isAnyCovered(packNumbered(pack).cells);
  }

  public int sisters(int cell) throws IndexOutOfBoundsException {
    Cell asked = cellNumbered(cell);
    int count = 0;
    for (int i = 0; i < cells.size(); i++) {
      if (areSisters(asked, cells.get(i))) {
        count++;
      }
    }
    return count;
  }

  public boolean isSister(int cell, int other) throws IndexOutOfBoundsException {
    return areSisters(cellNumbered(cell), cellNumbered(other));
  }

  // ---- figures

  public int time() {
    return hour;
  }

  public float readyShare() throws ArithmeticException {
    int all = cells.size();
    if (all == 0) {
      throw new ArithmeticException("no cells");
    }
    int ready = 0;
    for (int i = 0; i < all; i++) {
      if (cells.get(i).isReadyAt(hour)) {
        ready++;
      }
    }
    return (float) ready / (float) all;
  }

  public double meanHold() throws ArithmeticException {
    int all = cells.size();
    if (all == 0) {
      throw new ArithmeticException("no cells");
    }
    int sum = 0;
    for (int i = 0; i < all; i++) {
      sum += cells.get(i).hold;
    }
    return (double) sum / (double) all;
  }

  public long checksum() {
    long sum = 7;
    for (int i = 0; i < cells.size(); i++) {
      Cell cell = cells.get(i);
      sum = 31 * sum + cell.hold;
      sum = 31 * sum + cell.content;
      sum = 31 * sum + cell.resistance;
    }
    return sum;
  }

  public boolean isSound() {
    for (int i = 0; i < cells.size(); i++) {
      Cell cell = cells.get(i);
      if (!cell.isWithinHold() || cell.positive.hasMark() || cell.negative.hasMark()) {
        return false;
      }
      if (sharesMetres(i) || modulesWith(cell) > 1) {
        return false;
      }
    }
    for (int i = 0; i < modules.size(); i++) {
      CellModule module = modules.get(i);
      if (packsWith(module) > 1 || !areReady(module.cells)) {
        return false;
      }
    }
    return true;
  }

  // ---- what the calls share

  private static void requireWithin(int number, int least, int most) {
    if (number < least || number > most) {
      throw new IllegalArgumentException("a number is out of range");
    }
  }

  private static void requireCurrent(int current) {
    requireWithin(current, -30, 30);
  }

  private static void requireStep(int current, int hours) {
    requireCurrent(current);
    requireWithin(hours, 1, 20);
  }

  private static void requireSpace(int have, int more, int most) {
    if (have + more > most) {
      throw new IllegalStateException("there are too many");
    }
  }

  private static void requireChannel(int channel) {
    if (channel < 0 || channel >= CHANNELS) {
      throw new IndexOutOfBoundsException("no such channel");
    }
  }

  private static void requireNotSlit(Coil coil) {
    if (coil.slit) {
      throw new UnsupportedOperationException("slit");
    }
  }

  private void requirePackable(CellModule module) {
    if (module.packed || isAnyCovered(module.cells)) {
      throw new UnsupportedOperationException("in a pack, or with a cell that is covered");
    }
  }

  private Lot lotNumbered(int number) {
    if (number < 0 || number >= lots.size()) {
      throw new IndexOutOfBoundsException("no such lot");
    }
    return lots.get(number);
  }

  private Coil coilNumbered(int number) {
    if (number < 0 || number >= coils.size()) {
      throw new IndexOutOfBoundsException("no such coil");
    }
    return coils.get(number);
  }

  private Coil coilWithMetre(int number, int metre) {
    Coil coil = coilNumbered(number);
    if (metre < 0 || metre >= coil.metres) {
      throw new IndexOutOfBoundsException("no such metre");
    }
    return coil;
  }

  private Ribbon ribbonNumbered(int number) {
    if (number < 0 || number >= ribbons.size()) {
      throw new IndexOutOfBoundsException("no such ribbon");
    }
    return ribbons.get(number);
  }

  private Cell cellNumbered(int number) {
    if (number < 0 || number >= cells.size()) {
      throw new IndexOutOfBoundsException("no such cell");
    }
    return cells.get(number);
  }

  private Protocol protocolNumbered(int number) {
    if (number < 0 || number >= protocols.size()) {
      throw new IndexOutOfBoundsException("no such protocol");
    }
    return protocols.get(number);
  }

  private CellModule moduleNumbered(int number) {
    if (number < 0 || number >= modules.size()) {
      throw new IndexOutOfBoundsException("no such module");
    }
    return modules.get(number);
  }

  private Pack packNumbered(int number) {
    if (number < 0 || number >= packs.size()) {
      throw new IndexOutOfBoundsException("no such pack");
    }
    return packs.get(number);
  }

  private int freeHourOf(int channel) {
    return Math.max(hour, channelTakenTo[channel]);
  }

  private char sortOf(Cell cell) {
    if (!cell.isReadyAt(hour)) {
      return NOT_READY;
    }
    if (cell.plated || cell.wasCovered) {
      return 'x';
    }
    if (cell.hold >= firstBound && cell.resistance <= resistanceLimit) {
      return 'a';
    }
    return cell.hold >= secondBound ? 'b' : 'c';
  }

  /** Lists the cells that a module can take, by what they hold, like ones by their numbers. */
  private void listCandidates(char sort) {
    candidates.clear();
    for (int i = 0; i < cells.size(); i++) {
      Cell cell = cells.get(i);
      if (cell.module == null && sortOf(cell) == sort) {
        candidates.add(placeByHold(cell.hold), cell);
      }
    }
  }

  private int placeByHold(int hold) {
    for (int i = 0; i < candidates.size(); i++) {
      if (candidates.get(i).hold > hold) {
        return i;
      }
    }
    return candidates.size();
  }

  // Cells that are least apart stand in a row here, and the first such row holds least together.
  private int startOfLeastSpread(int count) {
    int best = 0;
    int leastApart = ABOVE_ALL;
    for (int i = 0; i + count <= candidates.size(); i++) {
      int apart = candidates.get(i + count - 1).hold - candidates.get(i).hold;
      if (apart < leastApart) {
        leastApart = apart;
        best = i;
      }
    }
    return best;
  }

  private static void addAll(ArrayList<Cell> from, ArrayList<Cell> to) {
    for (int i = 0; i < from.size(); i++) {
      to.add(from.get(i));
    }
  }

  /** Returns whether the hour was driven. */
  private boolean driveHour(Pack pack, int current) {
    int heat = greatestHeat(pack.cells);
    if (heat > TOO_HOT) {
      pack.off = true;
      pack.lastLetter = 'o';
      return false;
    }
    int sent = heat > HOT ? current / 2 : current;
    if (sent > 0 && isAnyFull(pack.cells)) {
      pack.lastLetter = 'f';
      return false;
    }
    if (sent < 0 && leastContent(pack.cells) == 0) {
      pack.lastLetter = 'e';
      return false;
    }
    pack.lastLetter = heat > HOT ? 'l' : heat > WARM ? 'w' : QUIET;
    haveHour(pack, sent);
    return true;
  }

  private void haveHour(Pack pack, int current) {
    for (int i = 0; i < pack.cells.size(); i++) {
      pack.cells.get(i).haveHour(current, degreesOfRoom);
    }
    int reckoned = pack.reckoned + current + pack.currentOffset;
    pack.reckoned = Math.max(0, Math.min(leastHold(pack.cells), reckoned));
  }

  private static int greatestHeat(ArrayList<Cell> members) {
    int heat = 0;
    for (int i = 0; i < members.size(); i++) {
      heat = Math.max(heat, members.get(i).heat);
    }
    return heat;
  }

  private static int greatestHold(ArrayList<Cell> members) {
    int hold = 0;
    for (int i = 0; i < members.size(); i++) {
      hold = Math.max(hold, members.get(i).hold);
    }
    return hold;
  }

  private static int leastHold(ArrayList<Cell> members) {
    int hold = ABOVE_ALL;
    for (int i = 0; i < members.size(); i++) {
      hold = Math.min(hold, members.get(i).hold);
    }
    return hold;
  }

  private static int leastContent(ArrayList<Cell> members) {
    int content = ABOVE_ALL;
    for (int i = 0; i < members.size(); i++) {
      content = Math.min(content, members.get(i).content);
    }
    return content;
  }

  private static boolean isAnyFull(ArrayList<Cell> members) {
    for (int i = 0; i < members.size(); i++) {
      if (members.get(i).content >= members.get(i).hold) {
        return true;
      }
    }
    return false;
  }

  private int addDoubt(Doubt doubt) {
    requireSpace(doubts.size(), 1, MAX_DOUBTS);
    for (int i = 0; i < cells.size(); i++) {
      Cell cell = cells.get(i);
      if (doubt.reaches(cell)) {
        cell.wasCovered = true;
      }
    }
    doubts.add(doubt);
    return doubts.size() - 1;
  }

  private boolean isCoveredNow(Cell cell) {
    for (int i = 0; i < doubts.size(); i++) {
      Doubt doubt = doubts.get(i);
      if (!doubt.cleared && doubt.reaches(cell)) {
        return true;
      }
    }
    return false;
  }

  private boolean isAnyCovered(ArrayList<Cell> members) {
    for (int i = 0; i < members.size(); i++) {
      if (isCoveredNow(members.get(i))) {
        return true;
      }
    }
    return false;
  }

  private static boolean areSisters(Cell one, Cell other) {
    return one != other
        && (one.positive.isNear(other.positive) || one.negative.isNear(other.negative));
  }

  private boolean sharesMetres(int number) {
    Cell cell = cells.get(number);
    for (int i = 0; i < number; i++) {
      Cell other = cells.get(i);
      if (cell.positive.overlaps(other.positive) || cell.negative.overlaps(other.negative)) {
        return true;
      }
    }
    return false;
  }

  private int modulesWith(Cell cell) {
    int count = 0;
    for (int i = 0; i < modules.size(); i++) {
      ArrayList<Cell> members = modules.get(i).cells;
      for (int k = 0; k < members.size(); k++) {
        if (members.get(k) == cell) {
          count++;
        }
      }
    }
    return count;
  }

  private int packsWith(CellModule module) {
    int count = 0;
    for (int i = 0; i < packs.size(); i++) {
      Pack pack = packs.get(i);
      if (pack.first == module || pack.second == module) {
        count++;
      }
    }
    return count;
  }

  private boolean areReady(ArrayList<Cell> members) {
    for (int i = 0; i < members.size(); i++) {
      if (!members.get(i).isReadyAt(hour)) {
        return false;
      }
    }
    return true;
  }

  private static final class Lot {
    final int number;
    final char kind;
    final int strength;
    int amount;

    Lot(int number, char kind, int strength, int amount) {
      this.number = number;
      this.kind = kind;
      this.strength = strength;
      this.amount = amount;
    }
  }

  private static final class Coater {
    int drift = 0;
    int metresRun = 0;

    /** Returns how much heavier the metre is than what is meant. */
    int runMetre() {
      int more = drift > 0 ? metresRun / drift : 0;
      metresRun++;
      return more;
    }
  }

  private static final class Coil {
    final int number;
    final Lot lot;
    final int metres;
    final int[] weights = new int[MAX_METRES];
    final char[] marks = new char[MAX_METRES];
    int pressure = 0;
    boolean slit = false;

    Coil(int number, Lot lot, int metres) {
      this.number = number;
      this.lot = lot;
      this.metres = metres;
      for (int i = 0; i < marks.length; i++) {
        marks[i] = UNMARKED;
      }
    }

    private boolean hasMetre(int metre) {
      return metre >= 0 && metre < metres && metre < MAX_METRES;
    }

    int weightOf(int metre) {
      return hasMetre(metre) ? weights[metre] : 0;
    }

    void setWeight(int metre, int weight) {
      if (hasMetre(metre)) {
        weights[metre] = weight;
      }
    }

    char markOf(int metre) {
      return hasMetre(metre) ? marks[metre] : UNMARKED;
    }

    void setMark(int metre, char mark) {
      if (hasMetre(metre)) {
        marks[metre] = mark;
      }
    }

    int thicknessOf(int metre) {
      int divisor = 100 + pressure;
      return divisor > 0 ? weightOf(metre) * 200 / divisor : 0;
    }
  }

  private static final class Ribbon {
    final Coil coil;
    final int burr;
    int takenTo = 0;

    Ribbon(Coil coil, int burr) {
      this.coil = coil;
      this.burr = burr;
    }

    /** Returns where the first stretch without a mark begins, or -1. */
    int startOfFree(int length) {
      int free = 0;
      for (int metre = takenTo; metre < coil.metres; metre++) {
        free = coil.markOf(metre) == UNMARKED ? free + 1 : 0;
        if (free == length) {
          return metre - length + 1;
        }
      }
      return -1;
    }

    Stretch take(int start, int length) {
      takenTo = start + length;
      return new Stretch(this, start, length);
    }
  }

  /** Metres of a ribbon that stand in one cell. */
  private static final class Stretch {
    final Ribbon ribbon;
    final int start;
    final int length;

    Stretch(Ribbon ribbon, int start, int length) {
      this.ribbon = ribbon;
      this.start = start;
      this.length = length;
    }

    /** Returns what the first metres, so many, could hold. */
    int capacity(int metres) {
      int sum = 0;
      for (int i = 0; i < metres; i++) {
        sum += ribbon.coil.weightOf(start + i);
      }
      return sum * ribbon.coil.lot.strength / 100;
    }

    int thicknessAtStart() {
      return ribbon.coil.thicknessOf(start);
    }

    boolean hasMark() {
      for (int i = 0; i < length; i++) {
        if (ribbon.coil.markOf(start + i) != UNMARKED) {
          return true;
        }
      }
      return false;
    }

    boolean hasMetreWithin(int from, int to) {
      return start <= to && start + length - 1 >= from;
    }

    boolean overlaps(Stretch other) {
      return ribbon == other.ribbon
          && hasMetreWithin(other.start, other.start + other.length - 1);
    }

    boolean isNear(Stretch other) {
      int from = other.start - SISTER_METRES;
      int to = other.start + other.length - 1 + SISTER_METRES;
      return ribbon.coil == other.ribbon.coil && hasMetreWithin(from, to);
    }
  }

  private static final class Cell {
    final int number;
    final Stretch positive;
    final Stretch negative;
    final int base;
    final int damp;
    final boolean tooRough;
    int hold;
    int content = 0;
    int resistance;
    int heat = 0;
    int throughput = 0;
    int wetness = 0;
    boolean filled = false;
    boolean formed = false;
    int readyAt = 0;
    boolean plated = false;
    boolean wasCovered = false;
    CellModule module = null;

    Cell(int number, Stretch positive, Stretch negative, int damp, boolean tooRough) {
      this.number = number;
      this.positive = positive;
      this.negative = negative;
      this.damp = damp;
      this.tooRough = tooRough;
      int metres = positive.length;
      base = Math.min(positive.capacity(metres), negative.capacity(metres));
      hold = base;
      int apart = positive.thicknessAtStart() - negative.thicknessAtStart();
      resistance = 10 + damp + Math.abs(apart);
    }

    boolean isReadyAt(int hour) {
      return formed && hour >= readyAt;
    }

    boolean isWithinHold() {
      return content >= 0 && content <= hold;
    }

    void holdLess(int less) {
      hold = Math.max(1, hold - less);
      content = Math.min(content, hold);
    }

    void soak(int hours) {
      if (filled) {
        wetness = Math.min(WET, wetness + 2 * hours);
      }
    }

    /** Loses what the hours behind the first one, up to the last one, cost. */
    void age(int from, int to) {
      if (!isReadyAt(to) || module != null && module.packed) {
        return;
      }
      int burrs = positive.ribbon.burr + negative.ribbon.burr;
      int since = Math.max(0, from - readyAt);
      int until = to - readyAt;
      int losses = until / HOURS_TO_LOSE - since / HOURS_TO_LOSE;
      content = Math.max(0, content - losses * (1 + (burrs + 1) / 2));
      // Behind the losses: as they come hour by hour, shrinking never takes something out.
      holdLess(until / HOURS_TO_SHRINK - since / HOURS_TO_SHRINK);
    }

    void growFilm() {
      holdLess(base / 10 + (WET - wetness) / 20 + damp);
    }

    /** Returns what went in or out. */
    int haveHour(int current, int degrees) {
      if (current > 0 && degrees + heat / 10 < 0) {
        plated = true;
        holdLess((current + 9) / 10);
      }
      int went = current > 0 ? Math.min(current, hold - content) : Math.min(-current, content);
      content += current > 0 ? went : -went;
      heat += current * current * resistance / 200 - heat / 4;
      int hundreds = throughput / 100;
      throughput += went;
      int more = throughput / 100 - hundreds;
      resistance += more;
      holdLess(more);
      return went;
    }
  }

  private static final class Protocol {
    final int[] currents = new int[MAX_STEPS];
    final int[] hours = new int[MAX_STEPS];
    int steps = 0;

    void addStep(int current, int hoursOfStep) {
      if (steps >= 0 && steps < MAX_STEPS) {
        currents[steps] = current;
        hours[steps] = hoursOfStep;
        steps++;
      }
    }

    int hoursInAll() {
      int sum = 0;
      for (int i = 0; i < steps && i < MAX_STEPS; i++) {
        sum += hours[i];
      }
      return sum;
    }

    /** Returns what went out of the cell. */
    int runOn(Cell cell, int degrees) {
      int out = 0;
      for (int i = 0; i < steps && i < MAX_STEPS; i++) {
        int went = runStep(cell, degrees, currents[i], hours[i]);
        out += currents[i] < 0 ? went : 0;
      }
      return out;
    }

    private static int runStep(Cell cell, int degrees, int current, int hours) {
      int sum = 0;
      for (int i = 0; i < hours; i++) {
        int went = cell.haveHour(current, degrees);
        sum += went;
        if (went == 0 && i > 0) {
          return sum;
        }
      }
      return sum;
    }
  }

  private static final class CellModule {
    final ArrayList<Cell> cells = new ArrayList<>();
    boolean packed = false;
  }

  private static final class Pack {
    final CellModule first;
    final CellModule second;
    final ArrayList<Cell> cells = new ArrayList<>();
    int currentOffset = 0;
    int reckoned = 0;
    boolean off = false;
    char lastLetter = QUIET;

    Pack(CellModule first, CellModule second) {
      this.first = first;
      this.second = second;
    }
  }

  private static final class Doubt {
    // 'm' for metres of a coil, 'l' for a lot, 'b' for burrs
    final char kind;
    final int number;
    final int from;
    final int to;
    boolean cleared = false;

    Doubt(char kind, int number, int from, int to) {
      this.kind = kind;
      this.number = number;
      this.from = from;
      this.to = to;
    }

    boolean reaches(Cell cell) {
      return reachesMetresOf(cell.positive) || reachesMetresOf(cell.negative);
    }

    private boolean reachesMetresOf(Stretch stretch) {
      Ribbon ribbon = stretch.ribbon;
      if (kind == 'l') {
        return ribbon.coil.lot.number == number;
      }
      if (kind == 'b') {
        return ribbon.burr >= number;
      }
      return ribbon.coil.number == number && stretch.hasMetreWithin(from, to);
    }
  }
}
