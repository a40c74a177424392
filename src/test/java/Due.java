import java.util.function.Consumer;
import java.util.function.ToIntFunction;

/** Compares answers with those that are due, and ends a test. */
final class Due {
  // Kinds of STEPS, by the document's numbers.
  static final int MARK = 0, HOLD = 1, LOOP = 2, BREAK = 3, NEXT = 4, RETURN = 5, THROW = 6, TRY = 7,
      BOTH = 8, CALL = 9, ADD = 10, SET = 11, NEW = 12, DROP = 13, SWEEP = 14;
  static final int NONE = -1, BAD = -2, FULL = -3, SPENT = 20;
  // 256 and 65536 would look like 0 to code that keeps too few bits.
  static final int[] BEYOND_ALL = {Integer.MIN_VALUE, Integer.MIN_VALUE + 1, -1000000, -65536, -256,
      256, 65536, 1000000, Integer.MAX_VALUE - 1, Integer.MAX_VALUE};

  private int wrong = 0;
  private int asked = 0;
  private String sentence = "";
  private int askedBefore = -1;

  void is(String call, long got, long want) {
    asked++;
    if (got != want) {
      wrong++;
      System.out.println(sentence + call + " answered " + got + ", due is " + want);
    }
  }

  /** What follows tests these words of the document; none is left without an answer asked for. */
  void sentence(String words) {
    closeSentence();
    sentence = "\"" + words + "\": ";
    askedBefore = asked;
  }

  private void closeSentence() {
    if (askedBefore == asked) {
      wrong++;
      System.out.println(sentence + "nothing was asked");
    }
  }

  void isTrue(String what, boolean holds) {
    is(what, holds ? 1 : 0, 1);
  }

  /** The TRACE has just these entries (at most 250 of them). */
  void trace(String what, HoldBench x, int... entries) {
    is(what + ": told(0)", x.told(0), entries.length);
    for (int i = 0; i < entries.length; i++) {
      is(what + ": trace(" + i + ")", x.trace(i), entries[i]);
    }
    is(what + ": trace(" + entries.length + ")", x.trace(entries.length), NONE);
  }

  /** What can be seen of an object in a few calls, to tell that nothing changed. */
  static String seen(HoldBench x) {
    StringBuilder s = new StringBuilder();
    for (int i = 0; i < 4; i++) s.append(x.count(i)).append(' ');
    for (int i = 0; i < 6; i++) s.append(x.at(i)).append(' ');
    for (int i = 0; i < 5; i++) s.append(x.told(i)).append(' ');
    for (int i = 0; i < 4; i++) s.append(x.trace(i)).append(' ').append(x.number(i)).append(' ');
    return s.toString();
  }

  void unchanged(String what, HoldBench x, String before) {
    isTrue(what + " left all as it was", seen(x).equals(before));
  }

  /** All that the calls of an object that only look can tell: 325 calls. */
  private static String all(HoldBench x) {
    StringBuilder s = new StringBuilder();
    for (int i = 0; i < 4; i++) s.append("count ").append(x.count(i)).append(' ');
    for (int i = 0; i < 6; i++) s.append("at ").append(x.at(i)).append(' ');
    for (int i = 0; i < 5; i++) s.append("told ").append(x.told(i)).append(' ');
    for (int i = 0; i < 250; i++) s.append(x.trace(i)).append(' ');
    for (int i = 0; i < 60; i++) s.append(x.number(i)).append(' ');
    return s.toString();
  }

  /** How many STEPS each BLOCK had, and how many there are when all were cleared. */
  private static String cleared(HoldBench x) {
    StringBuilder s = new StringBuilder();
    for (int block = 0; block < 40; block++) s.append(x.clear(block)).append(' ');
    return s.append(x.count(1)).toString();
  }

  /** Whether there is room for one THING more, and for one STEP more of each BLOCK. */
  private static String room(HoldBench x) {
    StringBuilder s = new StringBuilder();
    s.append(x.thing(3)).append(' ').append(x.at(3)).append(' ');
    for (int block = 0; block < 40; block++) s.append(x.step(block, MARK, 7, 0, 0)).append(' ');
    return s.append(x.count(0)).append(' ').append(x.count(1)).toString();
  }

  private static String ran(HoldBench x) {
    return x.run() + " " + all(x);
  }

  /**
   * A call answers as it is due and changes nothing: an object that has had it answers all other calls as
   * one does that has not. 'before' makes at most 180 calls, so that there are at most 512 in all.
   */
  void changesNothing(String call, Consumer<HoldBench> before, ToIntFunction<HoldBench> asks, int want) {
    alike(call, before, asks, want, Due::all);
    alike(call + ", then run()", before, asks, want, Due::ran);
    alike(call + ", then clear()", before, asks, want, Due::cleared);
    alike(call + ", then thing(), step()", before, asks, want, Due::room);
  }

  private interface Look {
    String at(HoldBench x);
  }

  private void alike(String call, Consumer<HoldBench> before, ToIntFunction<HoldBench> asks, int want, Look look) {
    HoldBench with = new HoldBench();
    HoldBench without = new HoldBench();
    before.accept(with);
    before.accept(without);
    is(call, asks.applyAsInt(with), want);
    String got = look.at(with);
    String due = look.at(without);
    isTrue(call + " changes nothing", got.equals(due));
  }

  /** Fills a BLOCK with MARKS 0, 1, 2 .. */
  static void marks(HoldBench x, int block, int howMany) {
    for (int i = 0; i < howMany; i++) x.step(block, MARK, i, 0, 0);
  }

  void end() {
    closeSentence();
    System.out.println(asked + " answers, " + wrong + " of them not as due");
    if (wrong != 0 || asked == 0) System.exit(1);
  }
}
