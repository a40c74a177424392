/** Promise 10. */
public final class NumberTest {
  public static void main(String[] args) {
    Due due = new Due();
    HoldBench x = new HoldBench();
    x.thing(0);
    x.thing(1);
    x.step(0, Due.HOLD, 0, 1, 0);
    x.step(1, Due.ADD, Integer.MAX_VALUE, 0, 0);
    x.run();
    due.is("number(0)", x.number(0), Integer.MAX_VALUE);
    due.is("number(1)", x.number(1), 0);
    x.step(1, Due.ADD, -Integer.MAX_VALUE, 0, 0);
    x.step(1, Due.ADD, 2, 0, 0);
    x.run();
    due.is("number(0) that wraps", x.number(0), Integer.MIN_VALUE + 1);
    x.clear(1);
    x.step(1, Due.ADD, -2, 0, 0);
    x.run();
    due.is("number(0) that wraps back", x.number(0), Integer.MAX_VALUE);
    x.set(0, Due.NONE);
    due.is("number(0) that stands nowhere", x.number(0), Integer.MAX_VALUE);
    due.is("number(-1)", x.number(-1), 0);
    due.is("number(2)", x.number(2), 0);
    due.is("number(59)", x.number(59), 0);
    due.is("number(60)", x.number(60), 0);
    for (int thing : Due.BEYOND_ALL) due.is("number(" + thing + ")", x.number(thing), 0);
    due.end();
  }
}
