/** Works as the tests need them at first. */
final class Works {
  static final Class<IndexOutOfBoundsException> INDEX = IndexOutOfBoundsException.class;
  static final Class<IllegalArgumentException> ARGUMENT = IllegalArgumentException.class;
  static final Class<IllegalStateException> STATE = IllegalStateException.class;
  static final Class<UnsupportedOperationException> UNSUPPORTED =
      UnsupportedOperationException.class;
  static final Class<java.util.NoSuchElementException> ELEMENT =
      java.util.NoSuchElementException.class;

  private Works() {
  }

  /** Lots 0 'p' and 1 'n', coils 0 and 1 of 200 metres that are meant to weigh so much. */
  static CoatLine coated(int weight) {
    CoatLine x = new CoatLine();
    x.lot('p', 100, 999);
    x.lot('n', 100, 999);
    x.coat(0, 200, weight);
    x.coat(1, 200, weight);
    return x;
  }

  /** Those coils slit to ribbons 0 to ribbons - 1 'p', and as many 'n' behind them, burrs 0. */
  static CoatLine slit(int weight, int ribbons) {
    CoatLine x = coated(weight);
    x.slit(0, ribbons);
    x.sharpen();
    x.slit(1, ribbons);
    x.sharpen();
    return x;
  }

  /** Cells of these lengths, all of ribbons 0 and 1. */
  static CoatLine wound(int weight, int... lengths) {
    CoatLine x = slit(weight, 1);
    for (int length : lengths) {
      x.wind(0, 1, length);
    }
    return x;
  }

  /** Such cells, wet by 100 at the hour 20. */
  static CoatLine wet(int weight, int... lengths) {
    CoatLine x = wound(weight, lengths);
    for (int cell = 0; cell < lengths.length; cell++) {
      x.fill(cell, 4);
    }
    x.pass(20);
    return x;
  }

  /** Such cells, empty and ready, with the time gone on by the hours that the channels needed. */
  static CoatLine ready(int weight, int... lengths) {
    CoatLine x = wet(weight, lengths);
    formAll(x, lengths.length);
    return x;
  }

  /** A pack 0 of a module 0 of such cells, all of sort 'a', that weigh 50 by the metre. */
  static CoatLine packed(int... lengths) {
    CoatLine x = ready(50, lengths);
    packAll(x, lengths.length);
    return x;
  }

  /** Brings so many cells, which are wound alone, to a pack 0, empty. */
  static void packWound(CoatLine x, int cells) {
    for (int cell = 0; cell < cells; cell++) {
      x.fill(cell, 4);
    }
    x.pass(20);
    formAll(x, cells);
    packAll(x, cells);
  }

  private static void formAll(CoatLine x, int cells) {
    x.protocol(0, 1);
    int last = 0;
    for (int cell = 0; cell < cells; cell++) {
      last = Math.max(last, x.form(cell, 0, cell % 4));
    }
    x.pass(last - x.time());
  }

  private static void packAll(CoatLine x, int cells) {
    x.bounds(0, 0, 99);
    x.module(cells, 'a');
    x.pack(0, -1);
  }
}
