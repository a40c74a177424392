/** Promise 6: what a RUN answers, and when it is refused or SPENT. */
public final class RunTest {
  public static void main(String[] args) {
    Due due = new Due();
    answers(due);
    thingsStay(due);
    threeHundredStepsAreDone(due);
    theStepBeyondIsNot(due);
    spentIsNotCaught(due);
    spentInASecondBlock(due);
    spentLeavesEveryHold(due);
    refusedHoldsOfARunUnderWay(due);
    fifteenHundredRefusedHolds(due);
    due.end();
  }

  private static void answers(Due due) {
    HoldBench x = new HoldBench();
    x.step(0, Due.MARK, 1, 0, 0);
    due.is("to its end", x.run(), 0);
    x.step(0, Due.RETURN, 0, 0, 0);
    due.is("RETURNED", x.run(), 0);
    for (int a = 1; a <= 9; a++) {
      x.clear(0);
      x.step(0, Due.THROW, a, 0, 0);
      x.step(0, Due.MARK, 1, 0, 0);
      due.is("THROW " + a, x.run(), a);
      due.trace("THROW " + a, x);
    }
    x.clear(0);
    x.step(0, Due.HOLD, 0, 1, 0);
    due.is("HOLD with none there", x.run(), 12);
    x.clear(0);
    x.thing(0);
    x.step(0, Due.ADD, 1, 0, 0);
    due.is("ADD to what is not HELD", x.run(), 11);
    for (int i = 1; i < 60; i++) x.thing(1);
    x.clear(0);
    x.step(0, Due.NEW, 1, 0, 0);
    due.is("NEW with 60", x.run(), 13);
  }

  private static void thingsStay(Due due) {
    HoldBench x = new HoldBench();
    x.thing(0);
    x.step(0, Due.NEW, 1, 0, 0);
    x.step(0, Due.SET, 2, 0, 0);
    x.step(0, Due.DROP, 0, 0, 0);
    x.step(0, Due.HOLD, 2, 1, 0);
    x.step(1, Due.ADD, 6, 2, 0);
    x.step(1, Due.THROW, 3, 0, 0);
    due.is("run()", x.run(), 3);
    due.is("at(0)", x.at(0), Due.NONE);
    due.is("at(1)", x.at(1), 1);
    due.is("at(2)", x.at(2), 0);
    due.is("number(0)", x.number(0), 6);
    due.is("count(0)", x.count(0), 2);
    x.clear(0);
    x.step(0, Due.ADD, 1, 2, 0);
    due.is("a HOLD that was thrown out of does not go on", x.run(), 11);
  }

  // 12 CALLS, and 12 + 12 STEPS in each of them.
  private static HoldBench programOf300() {
    HoldBench x = new HoldBench();
    for (int i = 0; i < 12; i++) x.step(0, Due.CALL, 0, 1, 0);
    Due.marks(x, 1, 11);
    x.step(1, Due.CALL, 0, 2, 0);
    Due.marks(x, 2, 12);
    return x;
  }

  private static void threeHundredStepsAreDone(Due due) {
    HoldBench x = programOf300();
    due.is("300 STEPS", x.run(), 0);
    due.is("told(1)", x.told(1), 300);
    due.is("told(0)", x.told(0), 276);

    x.clear(2);
    Due.marks(x, 2, 11);
    due.is("288 STEPS", x.run(), 0);
    due.is("told(1)", x.told(1), 288);

    x.step(2, Due.CALL, 0, 3, 0);
    due.is("a 300th STEP whose BLOCK has none", x.run(), 0);
    due.is("told(1)", x.told(1), 300);
  }

  private static void theStepBeyondIsNot(Due due) {
    HoldBench x = programOf300();
    x.clear(0);
    x.step(0, Due.MARK, 77, 0, 0);
    for (int i = 1; i < 12; i++) x.step(0, Due.CALL, 0, 1, 0);
    x.clear(1);
    Due.marks(x, 1, 1);
    x.step(1, Due.CALL, 0, 2, 0);
    x.step(1, Due.CALL, 0, 2, 0);
    due.is("309 STEPS", x.run(), Due.SPENT);
    due.is("told(1)", x.told(1), 300);
    due.is("told(0)", x.told(0), 300 - 11 - 22);
    due.is("count(2)", x.count(2), 1);
    due.is("the next RUN", x.run(), Due.SPENT);
    due.is("told(1) of it", x.told(1), 300);
  }

  /** BLOCK x uses up all 300 STEPS but those done before, and wants more. */
  private static void spend(HoldBench bench, int x) {
    bench.step(x, Due.LOOP, 5, x + 1, 0);
    bench.step(x + 1, Due.LOOP, 5, x + 2, 0);
    bench.step(x + 2, Due.LOOP, 5, x + 3, 0);
    for (int i = 0; i < 3; i++) bench.step(x + 3, Due.SET, 0, 0, 0);
  }

  private static void spentIsNotCaught(Due due) {
    HoldBench x = new HoldBench();
    x.step(0, Due.TRY, 0, 1, 2);
    x.step(0, Due.MARK, 3, 0, 0);
    x.step(1, Due.BOTH, 0, 3, 2);
    x.step(1, Due.MARK, 4, 0, 0);
    x.step(2, Due.MARK, 5, 0, 0);
    x.step(3, Due.CALL, 0, 10, 0);
    spend(x, 10);
    due.is("SPENT in TRY and BOTH", x.run(), Due.SPENT);
    due.trace("SPENT in TRY and BOTH", x);
    due.is("told(1)", x.told(1), 300);
    due.is("told(4): no HOLDS", x.told(4), 0);
  }

  private static void spentInASecondBlock(Due due) {
    HoldBench x = new HoldBench();
    x.step(0, Due.TRY, 0, 1, 2);
    x.step(1, Due.BOTH, 0, 3, 10);
    x.step(2, Due.MARK, 5, 0, 0);
    x.step(3, Due.THROW, 5, 0, 0);
    spend(x, 10);
    due.is("SPENT in the second BLOCK of BOTH", x.run(), Due.SPENT);
    due.trace("SPENT in the second BLOCK of BOTH", x);
  }

  private static void spentLeavesEveryHold(Due due) {
    HoldBench x = new HoldBench();
    x.thing(0);
    x.thing(1);
    x.step(0, Due.HOLD, 0, 1, 0);
    x.step(1, Due.CALL, 0, 2, 0);
    x.step(2, Due.HOLD, 1, 3, 0);
    x.step(3, Due.HOLD, 0, 4, 0);
    x.step(4, Due.HOLD, 1, 5, 0);
    x.step(4, Due.CALL, 0, 10, 0);
    spend(x, 10);
    due.is("SPENT under three HOLDS", x.run(), Due.SPENT);
    due.trace("SPENT under three HOLDS", x, 1000, 1001, 1000, 1001, 2001, 2500, 2501, 2500);
    due.is("told(2)", x.told(2), 4);
    due.is("told(3)", x.told(3), 4);
    due.is("told(4)", x.told(4), 3);
    x.clear(0);
    x.step(0, Due.ADD, 1, 0, 0);
    due.is("nothing is HELD behind it", x.run(), 11);
  }

  /** A RUN of 1 + 5 + 200 STEPS with 100 refused HOLDS. */
  private static void refuse(HoldBench x) {
    x.step(0, Due.LOOP, 5, 1, 0);
    x.step(1, Due.LOOP, 5, 2, 0);
    x.step(2, Due.TRY, 12, 3, 4);
    x.step(2, Due.TRY, 12, 3, 4);
    x.step(2, Due.TRY, 12, 3, 4);
    x.step(2, Due.TRY, 12, 3, 4);
    x.step(3, Due.HOLD, 0, 4, 0);
  }

  private static void refusedHoldsOfARunUnderWay(Due due) {
    HoldBench x = new HoldBench();
    refuse(x);
    for (int i = 1; i <= 14; i++) due.is("run " + i, x.run(), 0);
    due.is("count(3)", x.count(3), 1400);
    x.clear(1);
    for (int i = 0; i < 4; i++) x.step(1, Due.LOOP, 4, 2, 0);
    x.clear(2);
    x.step(2, Due.TRY, 0, 3, 4);
    due.is("run with 80 more", x.run(), 0);
    due.is("count(3)", x.count(3), 1480);
    x.clear(1);
    x.step(1, Due.TRY, 0, 3, 4);
    for (int i = 0; i < 3; i++) due.is("run with 5 more", x.run(), 0);
    due.is("count(3)", x.count(3), 1495);
    x.clear(0);
    for (int i = 0; i < 4; i++) x.step(0, Due.TRY, 0, 3, 4);
    x.step(0, Due.MARK, 6, 0, 0);
    due.is("run with 4 more", x.run(), 0);
    due.is("count(3)", x.count(3), 1499);
    due.is("run at 1499", x.run(), 0);
    due.is("count(3)", x.count(3), 1503);
    String before = Due.seen(x);
    due.is("run at 1503", x.run(), Due.FULL);
    due.unchanged("a RUN that is FULL", x, before);
    due.trace("the TRACE of the latest RUN stays", x, 10006);
    x.clear(0);
    due.is("run of nothing at 1503", x.run(), Due.FULL);
    due.is("count(2)", x.count(2), 20);
  }

  private static void fifteenHundredRefusedHolds(Due due) {
    HoldBench x = new HoldBench();
    refuse(x);
    for (int i = 1; i <= 15; i++) due.is("run " + i, x.run(), 0);
    due.is("count(3)", x.count(3), 1500);
    due.is("run at 1500", x.run(), Due.FULL);
    due.is("thing(0) goes on", x.thing(0), 0);
    due.is("step goes on", x.step(0, Due.MARK, 0, 0, 0), 2);
    due.is("run at 1500 with a THING there", x.run(), Due.FULL);
    due.is("count(2)", x.count(2), 15);
  }
}
