/** Promise 7. */
public final class TraceTest {
  public static void main(String[] args) {
    Due due = new Due();
    entries(due);
    twoHundredAndFifty(due);
    due.end();
  }

  private static void entries(Due due) {
    HoldBench x = new HoldBench();
    x.thing(0);
    x.step(0, Due.MARK, 42, 0, 0);
    x.step(0, Due.HOLD, 0, 1, 0);
    due.is("trace(0) before a RUN", x.trace(0), Due.NONE);
    x.run();
    due.trace("MARK and HOLD", x, 10042, 1000, 2000);
    for (int i : new int[] {-1, -2, 3, 249, 250}) due.is("trace(" + i + ")", x.trace(i), Due.NONE);
    for (int i : Due.BEYOND_ALL) due.is("trace(" + i + ")", x.trace(i), Due.NONE);
    x.clear(0);
    x.step(0, Due.MARK, 43, 0, 0);
    due.is("trace(1) before the next RUN", x.trace(1), 1000);
    x.run();
    due.trace("a shorter TRACE", x, 10043);
    due.is("trace(2) is of the latest RUN", x.trace(2), Due.NONE);
  }

  // 12 MARKS in each of 20 rounds, and others to come to the number that is wanted.
  private static HoldBench marks(int more) {
    HoldBench x = new HoldBench();
    x.step(0, Due.LOOP, 4, 1, 0);
    x.step(1, Due.LOOP, 5, 2, 0);
    Due.marks(x, 2, 12);
    x.step(0, Due.CALL, 0, 3, 0);
    Due.marks(x, 3, more);
    return x;
  }

  private static void twoHundredAndFifty(Due due) {
    HoldBench x = marks(9);
    due.is("run()", x.run(), 0);
    due.is("told(0)", x.told(0), 249);
    due.is("trace(248) of 249", x.trace(248), 10008);
    due.is("trace(249) of 249", x.trace(249), Due.NONE);
    x = marks(10);
    x.run();
    due.is("told(0)", x.told(0), 250);
    due.is("trace(249) of 250", x.trace(249), 10009);
    due.is("trace(250) of 250", x.trace(250), Due.NONE);
    x = marks(12);
    x.run();
    due.is("told(0)", x.told(0), 252);
    for (int i = 0; i < 250; i++) due.is("trace(" + i + ")", x.trace(i), 10000 + i % 12);
    due.is("trace(250) of 252", x.trace(250), Due.NONE);
    due.is("trace(251) of 252", x.trace(251), Due.NONE);
  }
}
