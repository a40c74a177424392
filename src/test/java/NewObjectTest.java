/** Promise 1. */
public final class NewObjectTest {
  public static void main(String[] args) {
    Due due = new Due();
    HoldBench x = new HoldBench();
    for (int what = 0; what < 4; what++) due.is("count(" + what + ")", x.count(what), 0);
    for (int what = 0; what < 5; what++) due.is("told(" + what + ")", x.told(what), 0);
    for (int place = 0; place < 6; place++) due.is("at(" + place + ")", x.at(place), Due.NONE);
    for (int thing = -1; thing < 61; thing++) due.is("number(" + thing + ")", x.number(thing), 0);
    for (int i : new int[] {-1, 0, 1, 249, 250}) due.is("trace(" + i + ")", x.trace(i), Due.NONE);
    for (int block = 0; block < 40; block++) due.is("clear(" + block + ")", x.clear(block), 0);

    due.is("run() of nothing", x.run(), 0);
    due.is("count(2) behind it", x.count(2), 1);
    due.trace("run() of nothing", x);

    HoldBench one = new HoldBench();
    HoldBench other = new HoldBench();
    one.thing(0);
    one.step(0, Due.MARK, 1, 0, 0);
    one.run();
    due.is("another object's THINGS", other.count(0), 0);
    due.is("another object's STEPS", other.count(1), 0);
    due.is("another object's RUNS", other.count(2), 0);
    due.is("another object's TRACE", other.trace(0), Due.NONE);
    due.end();
  }
}
