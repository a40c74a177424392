/** Each sentence that names or implies a wrap-around of ints: a NUMBER, the sum of a SWEEP, a MARK. */
public final class WrapTest {
  private static final int MAX = Integer.MAX_VALUE;
  private static final int MIN = Integer.MIN_VALUE;
  private static final Due due = new Due();

  public static void main(String[] args) {
    numbersByAdd();
    numbersThroughManySteps();
    marksOfALargeA();
    marksThatLookLikeAnswers();
    sumsThatWrap();
    sumsAsMarks();
    numbersThatWrappedInASweep();
    numbersThatArePassedOver();
    due.end();
  }

  /** THING 0 in PLACE 0, to which all these are added in one RUN. */
  private static HoldBench added(int... more) {
    HoldBench x = new HoldBench();
    x.thing(0);
    x.step(0, Due.HOLD, 0, 1, 0);
    for (int a : more) x.step(1, Due.ADD, a, 0, 0);
    due.is("run()", x.run(), 0);
    return x;
  }

  private static void numbersByAdd() {
    due.sentence("each with a NUMBER (0 at first, wrapping)");
    due.is("MAX", added(MAX).number(0), MAX);
    due.is("MAX + 1", added(MAX, 1).number(0), MIN);
    due.is("MAX + MAX", added(MAX, MAX).number(0), -2);
    due.is("MAX + 2 - 2", added(MAX, 2, -2).number(0), MAX);
    due.is("MIN", added(MIN).number(0), MIN);
    due.is("MIN - 1", added(MIN, -1).number(0), MAX);
    due.is("MIN + MIN", added(MIN, MIN).number(0), 0);
    due.is("MIN + MAX", added(MIN, MAX).number(0), -1);
    due.is("nothing", added(0).number(0), 0);
  }

  private static void numbersThroughManySteps() {
    due.sentence("10 ADD: NUMBER of the THING in PLACE x becomes a more");
    HoldBench x = added(MAX, MAX, MAX, 3);
    due.is("three times MAX, and 3", x.number(0), MIN);
    due.is("run() again", x.run(), 0);
    due.is("all that again", x.number(0), 0);
  }

  private static void marksOfALargeA() {
    due.sentence("A MARK comes as 10000 + a.");
    int[] as = {0, -1, -10000, MAX - 10000, MAX - 9999, MAX, MIN, MIN + 1, -1000000};
    int[] want = {10000, 9999, 0, MAX, MIN, MIN + 9999, MIN + 10000, MIN + 10001, -990000};
    HoldBench x = new HoldBench();
    for (int a : as) x.step(0, Due.MARK, a, 0, 0);
    due.is("run()", x.run(), 0);
    due.trace("MARKS", x, want);
  }

  private static void marksThatLookLikeAnswers() {
    due.sentence("A MARK comes as 10000 + a. (NONE, BAD, FULL as entries; those of a HOLD)");
    HoldBench x = new HoldBench();
    for (int entry : new int[] {Due.NONE, Due.BAD, Due.FULL, 1000, 2400}) x.step(0, Due.MARK, entry - 10000, 0, 0);
    due.is("run()", x.run(), 0);
    due.trace("MARKS", x, Due.NONE, Due.BAD, Due.FULL, 1000, 2400);
    for (int what = 2; what < 5; what++) due.is("told(" + what + ")", x.told(what), 0);
  }

  /** THINGS with these NUMBERS in the PLACES from 0 on; BLOCK 0 has a SWEEP of a alone. */
  private static HoldBench swept(int a, int... numbers) {
    HoldBench x = new HoldBench();
    for (int place = 0; place < numbers.length; place++) {
      x.thing(place);
      x.step(0, Due.HOLD, place, place + 1, 0);
      x.step(place + 1, Due.ADD, numbers[place], place, 0);
    }
    due.is("run()", x.run(), 0);
    x.clear(0);
    x.step(0, Due.SWEEP, a, 0, 0);
    due.is("run() of the SWEEP", x.run(), 0);
    return x;
  }

  /** The entry behind those of so many HOLDS, and that it is the last one. */
  private static void sum(String what, HoldBench x, int holds, int want) {
    due.is(what + ": told(2)", x.told(2), holds);
    due.is(what + ": told(0)", x.told(0), 2 * holds + 1);
    due.is(what + ": the sum", x.trace(2 * holds), want);
  }

  private static void sumsThatWrap() {
    due.sentence("its NUMBER is added (ints, wrapping)");
    sum("MAX + 1", swept(0, MAX, 1), 2, MIN + 10000);
    sum("MAX + MAX + MAX", swept(0, MAX, MAX, MAX), 3, MAX - 2 + 10000);
    sum("six times MAX", swept(0, MAX, MAX, MAX, MAX, MAX, MAX), 6, 10000 - 6);
    sum("MAX + 1, and -1 as the last one", swept(0, MAX, 1, -1, 5), 3, MAX + 10000);
    sum("MAX, 1, and MIN as the last one", swept(0, MAX, 1, MIN, 5), 3, 10000);
  }

  private static void sumsAsMarks() {
    due.sentence("the sum comes into the TRACE as a MARK");
    sum("a sum of MAX - 10000", swept(0, MAX - 10000), 1, MAX);
    sum("a sum of MAX - 9999", swept(0, MAX - 9999), 1, MIN);
    sum("a sum of MIN", swept(0, MIN), 1, MIN + 10000);
    sum("a sum of -10001", swept(0, -10001), 1, Due.NONE);
    sum("a sum of 0", swept(0, 0), 1, 10000);
  }

  private static void numbersThatWrappedInASweep() {
    due.sentence("if it is below 0, it is the last one");
    sum("0 is not below 0", swept(9, 0, 0, 4), 3, 10004);
    sum("-1 is", swept(9, 1, -1, 4), 2, 10000);
    sum("MIN is", swept(9, 1, MIN, 4), 2, MIN + 10001);
    sum("MAX is not", swept(9, MAX, 2, 4), 3, MAX + 6 + 10000);
    sum("in the first PLACE", swept(9, -7, 2, 4), 1, 9993);
    sum("in the last PLACE", swept(9, 1, 1, 1, 1, 1, -7), 6, 9998);
    HoldBench x = added(MAX, 1);
    x.thing(1);
    x.clear(0);
    x.step(0, Due.SWEEP, 9, 0, 0);
    due.is("run()", x.run(), 0);
    sum("a NUMBER that came below 0 by wrapping", x, 1, MIN + 10000);
  }

  private static void numbersThatArePassedOver() {
    due.sentence("if its NUMBER is a, it is passed over");
    sum("a = 0", swept(0, 0, 5, 0), 3, 10005);
    sum("a = MAX", swept(MAX, MAX, 5, MAX, 6), 4, 10011);
    sum("a = MIN: then it is not the last one", swept(MIN, MIN, 5, MIN, 6), 4, 10011);
    sum("a = -1: then it is not the last one", swept(-1, -1, 5, -1, 6), 4, 10011);
    sum("all of them", swept(3, 3, 3, 3, 3, 3, 3), 6, 10000);
  }
}
