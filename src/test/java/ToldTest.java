/** Promise 8. */
public final class ToldTest {
  public static void main(String[] args) {
    Due due = new Due();
    HoldBench x = new HoldBench();
    wrong(due, x);
    x.thing(0);
    x.thing(1);
    x.step(0, Due.HOLD, 0, 1, 0);
    x.step(0, Due.TRY, 0, 2, 3);
    x.step(0, Due.TRY, 0, 4, 3);
    x.step(1, Due.HOLD, 0, 5, 0);
    x.step(1, Due.HOLD, 1, 5, 0);
    x.step(2, Due.HOLD, 1, 6, 0);
    x.step(3, Due.MARK, 0, 0, 0);
    x.step(4, Due.HOLD, 2, 6, 0);
    x.step(6, Due.THROW, 1, 0, 0);
    due.is("told(1) before the RUN", x.told(1), 0);
    due.is("run()", x.run(), 0);
    due.trace("HOLDS", x, 1000, 1000, 2000, 1001, 2001, 2000, 1001, 2401, 10000, 10000);
    told(due, x, 10, 10, 4, 2, 1);

    x.clear(0);
    x.step(0, Due.HOLD, 0, 7, 0);
    x.step(7, Due.SWEEP, 99, 0, 0);
    x.run();
    due.trace("HOLDS of SWEEP", x, 1000, 1000, 2000, 1001, 2001, 10000, 2000);
    told(due, x, 7, 2, 3, 2, 0);

    x.clear(0);
    x.step(0, Due.HOLD, 2, 7, 0);
    x.run();
    due.is("a refused HOLD's count(3)", x.count(3), 2);
    told(due, x, 0, 1, 0, 0, 0);

    x.clear(0);
    x.run();
    told(due, x, 0, 0, 0, 0, 0);
    wrong(due, x);
    due.end();
  }

  private static void told(Due due, HoldBench x, int... want) {
    for (int what = 0; what < 5; what++) due.is("told(" + what + ")", x.told(what), want[what]);
  }

  private static void wrong(Due due, HoldBench x) {
    due.is("told(-1)", x.told(-1), Due.BAD);
    due.is("told(5)", x.told(5), Due.BAD);
    for (int what : Due.BEYOND_ALL) due.is("told(" + what + ")", x.told(what), Due.BAD);
  }
}
