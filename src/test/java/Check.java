/** Counts the answers of a test that are not the ones that are due. */
final class Check {
  private final String test;
  private int wrong = 0;
  private int seen = 0;

  Check(String test) {
    this.test = test;
  }

  void is(String what, long got, long want) {
    seen++;
    if (got != want) {
      tell(what + " answered " + got + ", due is " + want);
    }
  }

  void isLetter(String what, char got, char want) {
    seen++;
    if (got != want) {
      tell(what + " answered '" + got + "', due is '" + want + "'");
    }
  }

  void isReal(String what, double got, double want) {
    seen++;
    if (got != want) {
      tell(what + " answered " + got + ", due is " + want);
    }
  }

  void yes(String what, boolean got) {
    seen++;
    if (!got) {
      tell(what + " answered false, due is true");
    }
  }

  void no(String what, boolean got) {
    seen++;
    if (got) {
      tell(what + " answered true, due is false");
    }
  }

  /**
   * The call must throw just this kind, and the class itself must, not the machine for it; and it
   * must leave all that the object holds as it was.
   */
  void refuses(String what, Class<? extends RuntimeException> kind, CoatLine x, Runnable call) {
    seen++;
    String before = Inside.of(x);
    try {
      call.run();
    } catch (RuntimeException thrown) {
      if (thrown.getClass() != kind) {
        tell(what + " threw " + thrown.getClass().getName() + ", due is " + kind.getName());
      } else if (!isThrownByTheClass(thrown)) {
        tell(what + " let the machine throw");
      } else if (!Inside.of(x).equals(before)) {
        tell(what + " was refused and changed something");
      }
      return;
    }
    tell(what + " threw nothing, due is " + kind.getName());
  }

  /** An exception of the library's own, such as a list's, begins in the library. */
  static boolean isThrownByTheClass(Throwable thrown) {
    StackTraceElement[] calls = thrown.getStackTrace();
    return calls.length > 0 && calls[0].getClassName().equals("CoatLine");
  }

  void end() {
    System.out.println(test + ": " + seen + " answers, " + wrong + " not as due");
    if (wrong != 0) {
      System.exit(1);
    }
  }

  private void tell(String text) {
    wrong++;
    System.out.println(test + ": " + text);
  }
}
