/** Promise 5. */
public final class ClearTest {
  public static void main(String[] args) {
    Due due = new Due();
    HoldBench x = new HoldBench();
    Due.marks(x, 0, 12);
    Due.marks(x, 39, 2);
    x.step(1, Due.MARK, 7, 0, 0);
    due.is("clear(0)", x.clear(0), 12);
    due.is("count(1)", x.count(1), 3);
    due.is("clear(0) again", x.clear(0), 0);
    due.is("run()", x.run(), 0);
    due.trace("a cleared BLOCK", x);
    due.is("step of the cleared BLOCK", x.step(0, Due.CALL, 0, 1, 0), 1);
    due.is("run()", x.run(), 0);
    due.trace("other BLOCKS stay", x, 10007);

    String before = Due.seen(x);
    due.is("clear(-1)", x.clear(-1), Due.BAD);
    due.is("clear(40)", x.clear(40), Due.BAD);
    for (int wrong : Due.BEYOND_ALL) due.is("clear(" + wrong + ")", x.clear(wrong), Due.BAD);
    due.unchanged("a wrong clear", x, before);

    due.is("clear(39)", x.clear(39), 2);
    due.is("told(0): the TRACE stays", x.told(0), 1);
    due.is("count(1)", x.count(1), 2);
    due.end();
  }
}
