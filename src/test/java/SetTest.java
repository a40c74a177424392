/** Promise 3. */
public final class SetTest {
  public static void main(String[] args) {
    Due due = new Due();
    HoldBench x = new HoldBench();
    x.thing(0);
    x.thing(5);
    due.is("set(2, 5)", x.set(2, 5), 1);
    due.is("at(2)", x.at(2), 1);
    due.is("at(5)", x.at(5), 1);
    due.is("set(5, 0)", x.set(5, 0), 0);
    due.is("at(5)", x.at(5), 0);
    due.is("at(2) stays", x.at(2), 1);
    due.is("set(0, 0)", x.set(0, 0), 0);
    due.is("at(0)", x.at(0), 0);
    due.is("set(2, NONE)", x.set(2, Due.NONE), Due.NONE);
    due.is("at(2)", x.at(2), Due.NONE);
    due.is("set(0, 3), of a PLACE with none", x.set(0, 3), Due.NONE);
    due.is("at(0)", x.at(0), Due.NONE);
    due.is("count(0)", x.count(0), 2);

    String before = Due.seen(x);
    due.is("set(-1, 5)", x.set(-1, 5), Due.BAD);
    due.is("set(6, 5)", x.set(6, 5), Due.BAD);
    due.is("set(5, -2)", x.set(5, -2), Due.BAD);
    due.is("set(5, 6)", x.set(5, 6), Due.BAD);
    due.is("set(-1, NONE)", x.set(-1, Due.NONE), Due.BAD);
    for (int wrong : Due.BEYOND_ALL) {
      due.is("set(" + wrong + ", 5)", x.set(wrong, 5), Due.BAD);
      due.is("set(5, " + wrong + ")", x.set(5, wrong), Due.BAD);
    }
    due.unchanged("a wrong set", x, before);
    due.end();
  }
}
