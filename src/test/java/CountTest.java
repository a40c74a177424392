/** Promise 11. */
public final class CountTest {
  public static void main(String[] args) {
    Due due = new Due();
    HoldBench x = new HoldBench();
    wrong(due, x);
    x.thing(0);
    x.thing(0);
    x.set(0, Due.NONE);
    x.step(0, Due.NEW, 1, 0, 0);
    x.step(0, Due.HOLD, 1, 7, 0);
    x.step(0, Due.TRY, 0, 1, 7);
    x.step(0, Due.TRY, 0, 2, 7);
    x.step(0, Due.SWEEP, 0, 0, 0);
    x.step(1, Due.HOLD, 0, 7, 0);
    x.step(2, Due.ADD, 1, 0, 0);
    count(due, x, 2, 7, 0, 0);
    due.is("run()", x.run(), 0);
    count(due, x, 3, 7, 1, 1);
    x.clear(2);
    due.is("run()", x.run(), 0);
    count(due, x, 4, 6, 2, 2);
    x.clear(0);
    x.step(0, Due.THROW, 4, 0, 0);
    due.is("run()", x.run(), 4);
    count(due, x, 4, 2, 3, 2);
    wrong(due, x);
    due.end();
  }

  private static void count(Due due, HoldBench x, int... want) {
    for (int what = 0; what < 4; what++) due.is("count(" + what + ")", x.count(what), want[what]);
  }

  private static void wrong(Due due, HoldBench x) {
    due.is("count(-1)", x.count(-1), Due.BAD);
    due.is("count(4)", x.count(4), Due.BAD);
    for (int what : Due.BEYOND_ALL) due.is("count(" + what + ")", x.count(what), Due.BAD);
  }
}
