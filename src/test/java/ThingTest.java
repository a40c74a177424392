/** Promise 2. */
public final class ThingTest {
  public static void main(String[] args) {
    Due due = new Due();
    numbersRise(due);
    wrongPlaces(due);
    sixtyAtMost(due);
    due.end();
  }

  private static void numbersRise(Due due) {
    HoldBench x = new HoldBench();
    due.is("thing(0)", x.thing(0), 0);
    due.is("thing(5)", x.thing(5), 1);
    due.is("thing(5) again", x.thing(5), 2);
    due.is("at(5)", x.at(5), 2);
    due.is("at(0)", x.at(0), 0);
    due.is("at(1)", x.at(1), Due.NONE);
    due.is("number(2)", x.number(2), 0);
    due.is("count(0)", x.count(0), 3);
    x.set(5, Due.NONE);
    due.is("thing(1) when another one was put away", x.thing(1), 3);
  }

  private static void wrongPlaces(Due due) {
    HoldBench x = new HoldBench();
    x.thing(3);
    String before = Due.seen(x);
    due.is("thing(-1)", x.thing(-1), Due.BAD);
    due.is("thing(6)", x.thing(6), Due.BAD);
    for (int place : Due.BEYOND_ALL) due.is("thing(" + place + ")", x.thing(place), Due.BAD);
    due.unchanged("thing of a wrong PLACE", x, before);
  }

  private static void sixtyAtMost(Due due) {
    HoldBench x = new HoldBench();
    for (int i = 0; i < 60; i++) due.is("thing " + i, x.thing(i % 6), i);
    String before = Due.seen(x);
    due.is("thing(0), the 61st", x.thing(0), Due.FULL);
    due.is("thing(6), the 61st", x.thing(6), Due.BAD);
    due.unchanged("thing beyond 60", x, before);
    due.is("number(59)", x.number(59), 0);
    due.is("number(60) of 60", x.number(60), 0);
    x.step(0, Due.HOLD, 5, 1, 0);
    due.is("run() that holds the last THING", x.run(), 0);
    due.trace("the last THING", x, 1059, 2059);
  }
}
