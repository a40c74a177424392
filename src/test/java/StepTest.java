/** Promise 4. */
public final class StepTest {
  private static final int ANY = 1234567;

  public static void main(String[] args) {
    Due due = new Due();
    behindOneAnother(due);
    blocksAndKinds(due);
    marksOfAnyNumber(due);
    numbersThatAStepLooksAt(due);
    numbersThatAStepPassesOver(due);
    blocksThatAreNamed(due);
    twelveInABlock(due);
    hundredAndFiftyInAll(due);
    due.end();
  }

  private static void good(Due due, int block, int kind, int a, int x, int y) {
    say(due, block, kind, a, x, y, 1);
  }

  private static void bad(Due due, int block, int kind, int a, int x, int y) {
    say(due, block, kind, a, x, y, Due.BAD);
  }

  private static void say(Due due, int block, int kind, int a, int x, int y, int want) {
    HoldBench bench = new HoldBench();
    String call = "step(" + block + ", " + kind + ", " + a + ", " + x + ", " + y + ")";
    due.is(call, bench.step(block, kind, a, x, y), want);
    due.is(call + ", then count(1)", bench.count(1), want == Due.BAD ? 0 : 1);
  }

  private static void behindOneAnother(Due due) {
    HoldBench x = new HoldBench();
    due.is("a first STEP", x.step(0, Due.MARK, 5, 0, 0), 1);
    due.is("a second STEP", x.step(0, Due.MARK, 4, 0, 0), 2);
    due.is("a first STEP of another BLOCK", x.step(39, Due.MARK, 9, 0, 0), 1);
    due.is("a third STEP", x.step(0, Due.MARK, 6, 0, 0), 3);
    x.run();
    due.trace("STEPS in their order", x, 10005, 10004, 10006);
  }

  private static void blocksAndKinds(Due due) {
    good(due, 0, Due.MARK, 0, 0, 0);
    good(due, 39, Due.MARK, 0, 0, 0);
    bad(due, -1, Due.MARK, 0, 0, 0);
    bad(due, 40, Due.MARK, 0, 0, 0);
    bad(due, 0, -1, 1, 1, 1);
    for (int kind = 0; kind <= 14; kind++) good(due, 0, kind, 1, 1, 1);
    bad(due, 0, 15, 1, 1, 1);
    for (int wrong : Due.BEYOND_ALL) {
      bad(due, wrong, Due.MARK, 0, 0, 0);
      bad(due, wrong, Due.CALL, 0, 1, 0);
      bad(due, 0, wrong, 1, 1, 1);
    }
  }

  private static void marksOfAnyNumber(Due due) {
    HoldBench x = new HoldBench();
    x.step(0, Due.MARK, -10001, 0, 0);
    x.step(0, Due.MARK, Integer.MAX_VALUE, 0, 0);
    x.step(0, Due.MARK, Integer.MIN_VALUE, 0, 0);
    x.run();
    due.trace("MARKS", x, -1, Integer.MAX_VALUE + 10000, Integer.MIN_VALUE + 10000);
  }

  private static void numbersThatAStepLooksAt(Due due) {
    range(due, Due.HOLD, 0, 5);
    range(due, Due.LOOP, 0, 5);
    range(due, Due.THROW, 1, 9);
    range(due, Due.TRY, 0, 13);
    range(due, Due.SET, 0, 5);
    range(due, Due.NEW, 0, 5);
    range(due, Due.DROP, 0, 5);
    for (int kind : new int[] {Due.ADD, Due.SET}) {
      good(due, 0, kind, 0, 0, ANY);
      good(due, 0, kind, 0, 5, ANY);
      bad(due, 0, kind, 0, -1, ANY);
      bad(due, 0, kind, 0, 6, ANY);
      for (int wrong : Due.BEYOND_ALL) bad(due, 0, kind, 0, wrong, ANY);
    }
  }

  private static void range(Due due, int kind, int least, int most) {
    good(due, 0, kind, least, 1, 1);
    good(due, 0, kind, most, 1, 1);
    bad(due, 0, kind, least - 1, 1, 1);
    bad(due, 0, kind, most + 1, 1, 1);
    for (int wrong : Due.BEYOND_ALL) bad(due, 0, kind, wrong, 1, 1);
  }

  private static void numbersThatAStepPassesOver(Due due) {
    for (int any : Due.BEYOND_ALL) {
      for (int kind : new int[] {Due.MARK, Due.BREAK, Due.NEXT, Due.RETURN, Due.SWEEP}) {
        good(due, 0, kind, any, any, any);
        good(due, 39, kind, any, any, any);
      }
      good(due, 39, Due.THROW, 1, any, any);
      good(due, 39, Due.NEW, 0, any, any);
      good(due, 39, Due.DROP, 0, any, any);
      good(due, 39, Due.ADD, any, 0, any);
      good(due, 39, Due.SET, 0, 0, any);
      good(due, 0, Due.HOLD, 0, 1, any);
      good(due, 0, Due.LOOP, 0, 1, any);
      good(due, 0, Due.CALL, any, 1, any);
      good(due, 0, Due.BOTH, any, 1, 1);
    }
  }

  private static void blocksThatAreNamed(Due due) {
    for (int kind : new int[] {Due.HOLD, Due.LOOP, Due.TRY, Due.BOTH, Due.CALL}) {
      for (int block : new int[] {0, 7, 38}) {
        good(due, block, kind, 1, block + 1, 39);
        good(due, block, kind, 1, 39, block + 1);
        bad(due, block, kind, 1, block, 39);
        bad(due, block, kind, 1, block - 1, 39);
        bad(due, block, kind, 1, 40, 39);
        for (int wrong : Due.BEYOND_ALL) bad(due, block, kind, 1, wrong, 39);
      }
      bad(due, 39, kind, 1, 39, 39);
      bad(due, 39, kind, 1, 40, 40);
    }
    for (int kind : new int[] {Due.TRY, Due.BOTH}) {
      bad(due, 7, kind, 1, 8, 7);
      bad(due, 7, kind, 1, 8, 6);
      bad(due, 7, kind, 1, 8, 40);
      for (int wrong : Due.BEYOND_ALL) bad(due, 7, kind, 1, 8, wrong);
    }
  }

  private static void twelveInABlock(Due due) {
    HoldBench x = new HoldBench();
    for (int i = 1; i <= 12; i++) due.is("STEP " + i + " of a BLOCK", x.step(3, Due.MARK, i, 0, 0), i);
    due.is("a 13th STEP", x.step(3, Due.MARK, 13, 0, 0), Due.FULL);
    due.is("a 13th STEP that is BAD", x.step(3, Due.THROW, 0, 0, 0), Due.BAD);
    due.is("a 13th STEP of kind 15", x.step(3, 15, 0, 0, 0), Due.BAD);
    due.is("count(1)", x.count(1), 12);
    due.is("a first STEP of the next BLOCK", x.step(4, Due.MARK, 44, 0, 0), 1);
    due.is("a CALL of the full BLOCK", x.step(0, Due.CALL, 0, 3, 0), 1);
    x.run();
    due.trace("a full BLOCK", x, 10001, 10002, 10003, 10004, 10005, 10006, 10007, 10008, 10009,
        10010, 10011, 10012);
  }

  private static void hundredAndFiftyInAll(Due due) {
    HoldBench x = new HoldBench();
    for (int i = 0; i < 150; i++) {
      due.is("STEP " + i + " of all", x.step(i % 40, Due.MARK, i, 0, 0), i / 40 + 1);
    }
    due.is("a 151st STEP", x.step(39, Due.MARK, 0, 0, 0), Due.FULL);
    due.is("a 151st STEP that is BAD", x.step(40, Due.MARK, 0, 0, 0), Due.BAD);
    due.is("count(1)", x.count(1), 150);
    due.is("clear(39)", x.clear(39), 3);
    due.is("count(1)", x.count(1), 147);
    for (int i = 1; i <= 3; i++) due.is("STEPS in the room of those", x.step(39, Due.MARK, 0, 0, 0), i);
    due.is("a 151st STEP again", x.step(38, Due.MARK, 0, 0, 0), Due.FULL);
    x.run();
    due.trace("BLOCK 0", x, 10000, 10040, 10080, 10120);
  }
}
