/** Compares answers with those that are due, and ends a test. */
final class Due {
  // Kinds of STEPS, by the document's numbers.
  static final int MARK = 0, HOLD = 1, LOOP = 2, BREAK = 3, NEXT = 4, RETURN = 5, THROW = 6, TRY = 7,
      BOTH = 8, CALL = 9, ADD = 10, SET = 11, NEW = 12, DROP = 13, SWEEP = 14;
  static final int NONE = -1, BAD = -2, FULL = -3, SPENT = 20;
  static final int[] BEYOND_ALL = {Integer.MIN_VALUE, -1000000, 1000000, Integer.MAX_VALUE};

  private int wrong = 0;
  private int asked = 0;

  void is(String call, long got, long want) {
    asked++;
    if (got != want) {
      wrong++;
      System.out.println(call + " answered " + got + ", due is " + want);
    }
  }

  void isTrue(String what, boolean holds) {
    is(what, holds ? 1 : 0, 1);
  }

  /** The TRACE has just these entries (at most 250 of them). */
  void trace(String what, HoldBench x, int... entries) {
    is(what + ": told(0)", x.told(0), entries.length);
    for (int i = 0; i < entries.length; i++) {
      is(what + ": trace(" + i + ")", x.trace(i), entries[i]);
    }
    is(what + ": trace(" + entries.length + ")", x.trace(entries.length), NONE);
  }

  /** What can be seen of an object in a few calls, to tell that nothing changed. */
  static String seen(HoldBench x) {
    StringBuilder s = new StringBuilder();
    for (int i = 0; i < 4; i++) s.append(x.count(i)).append(' ');
    for (int i = 0; i < 6; i++) s.append(x.at(i)).append(' ');
    for (int i = 0; i < 5; i++) s.append(x.told(i)).append(' ');
    for (int i = 0; i < 4; i++) s.append(x.trace(i)).append(' ').append(x.number(i)).append(' ');
    return s.toString();
  }

  void unchanged(String what, HoldBench x, String before) {
    isTrue(what + " left all as it was", seen(x).equals(before));
  }

  /** Fills a BLOCK with MARKS 0, 1, 2 .. */
  static void marks(HoldBench x, int block, int howMany) {
    for (int i = 0; i < howMany; i++) x.step(block, MARK, i, 0, 0);
  }

  void end() {
    System.out.println(asked + " answers, " + wrong + " of them not as due");
    if (wrong != 0 || asked == 0) System.exit(1);
  }
}
