import java.util.function.ToIntFunction;

/** "Calls answer, the first of these that fits: BAD (a number is not as told), FULL: then nothing changes." */
public final class RefusedTest {
  private static final Due due = new Due();

  public static void main(String[] args) {
    badThing();
    badSet();
    badStepBlockOrKind();
    badStepNumbers();
    badClear();
    badLooks();
    noneSuch();
    fullOfThings();
    fullBlock();
    fullOfSteps();
    fullOfRefusedHolds();
    badAheadOfFullThings();
    badAheadOfAFullBlock();
    badAheadOfFullSteps();
    badGoesOnWhenRunsAreFull();
    due.end();
  }

  /** Some THINGS, STEPS, a RUN with entries of each sort, and a refused HOLD: few calls, so that many are left. */
  private static void usual(HoldBench x) {
    x.thing(0);
    x.thing(2);
    x.set(4, 0);
    x.step(0, Due.HOLD, 0, 1, 0);
    x.step(0, Due.TRY, 12, 2, 3);
    x.step(0, Due.SWEEP, 0, 0, 0);
    x.step(0, Due.NEW, 5, 0, 0);
    x.step(0, Due.THROW, 7, 0, 0);
    x.step(1, Due.ADD, 11, 4, 0);
    x.step(1, Due.LOOP, 3, 3, 0);
    x.step(2, Due.HOLD, 1, 3, 0);
    x.step(3, Due.MARK, 33, 0, 0);
    x.step(39, Due.MARK, 39, 0, 0);
    x.run();
    x.run();
  }

  private static void sixtyThings(HoldBench x) {
    for (int i = 0; i < 60; i++) x.thing(i % 6);
  }

  /** BLOCK 0 has 12 STEPS, which are a RUN of their own. */
  private static void twelveSteps(HoldBench x) {
    usual(x);
    x.clear(0);
    Due.marks(x, 0, 11);
    x.step(0, Due.CALL, 0, 1, 0);
  }

  private static void hundredAndFiftySteps(HoldBench x) {
    x.thing(0);
    for (int i = 0; i < 150; i++) x.step(i % 39, Due.MARK, i, 0, 0);
    x.run();
  }

  private static void refusedHolds(HoldBench x) {
    x.step(0, Due.LOOP, 5, 1, 0);
    x.step(1, Due.LOOP, 5, 2, 0);
    x.step(2, Due.LOOP, 5, 3, 0);
    x.step(3, Due.TRY, 0, 4, 5);
    x.step(4, Due.HOLD, 0, 5, 0);
    for (int i = 0; i < 12; i++) x.run();
    x.thing(1);
  }

  private static void bad(String call, ToIntFunction<HoldBench> asks) {
    due.changesNothing(call, RefusedTest::usual, asks, Due.BAD);
  }

  private static void badThing() {
    due.sentence("A new THING in a PLACE: its number. BAD");
    for (int p : new int[] {-1, 6, 256, Integer.MIN_VALUE, Integer.MAX_VALUE}) bad("thing(" + p + ")", x -> x.thing(p));
  }

  private static void badSet() {
    due.sentence("PLACE a has what PLACE b has .. BAD.");
    for (int p : new int[] {-2, 6, 256, Integer.MIN_VALUE, Integer.MAX_VALUE}) {
      bad("set(" + p + ", 0)", x -> x.set(p, 0));
      bad("set(" + p + ", NONE)", x -> x.set(p, Due.NONE));
      bad("set(0, " + p + ")", x -> x.set(0, p));
      bad("set(" + p + ", " + p + ")", x -> x.set(p, p));
    }
    bad("set(NONE, 0)", x -> x.set(Due.NONE, 0));
    bad("set(NONE, NONE)", x -> x.set(Due.NONE, Due.NONE));
  }

  private static void badStep(int block, int kind, int a, int x, int y) {
    bad("step(" + block + ", " + kind + ", " + a + ", " + x + ", " + y + ")", b -> b.step(block, kind, a, x, y));
  }

  private static void badStepBlockOrKind() {
    due.sentence("BAD: BLOCK, kind (0 to 14)");
    for (int block : new int[] {-1, 40, 256, Integer.MIN_VALUE, Integer.MAX_VALUE}) {
      badStep(block, Due.MARK, 0, 0, 0);
      badStep(block, Due.CALL, 0, 1, 0);
    }
    for (int kind : new int[] {-1, 15, 256, Integer.MIN_VALUE, Integer.MAX_VALUE}) badStep(0, kind, 1, 1, 1);
  }

  private static void badStepNumbers() {
    due.sentence("BAD: .. PLACES, a (of 2, 6, 7), BLOCKS x, y that it names");
    for (int kind : new int[] {Due.HOLD, Due.LOOP, Due.SET, Due.NEW, Due.DROP}) {
      badStep(0, kind, -1, 1, 1);
      badStep(0, kind, 6, 1, 1);
    }
    badStep(0, Due.THROW, 0, 1, 1);
    badStep(0, Due.THROW, 10, 1, 1);
    badStep(0, Due.TRY, -1, 1, 1);
    badStep(0, Due.TRY, 14, 1, 1);
    for (int kind : new int[] {Due.ADD, Due.SET}) {
      badStep(0, kind, 1, -1, 1);
      badStep(0, kind, 1, 6, 1);
    }
    for (int kind : new int[] {Due.HOLD, Due.LOOP, Due.TRY, Due.BOTH, Due.CALL}) {
      for (int named : new int[] {-1, 1, 2, 40}) badStep(2, kind, 1, named, 3);
    }
    for (int kind : new int[] {Due.TRY, Due.BOTH}) {
      for (int named : new int[] {-1, 1, 2, 40}) badStep(2, kind, 1, 3, named);
    }
  }

  private static void badClear() {
    due.sentence("A BLOCK has no STEPS: how many it had. BAD.");
    for (int b : new int[] {-1, 40, 256, Integer.MIN_VALUE, Integer.MAX_VALUE}) bad("clear(" + b + ")", x -> x.clear(b));
  }

  private static void badLooks() {
    due.sentence("told: BAD. at: BAD. count: BAD.");
    for (int n : new int[] {-1, 6, 256, Integer.MIN_VALUE, Integer.MAX_VALUE}) {
      bad("told(" + n + ")", x -> x.told(n));
      bad("at(" + n + ")", x -> x.at(n));
      bad("count(" + n + ")", x -> x.count(n));
    }
    bad("told(5)", x -> x.told(5));
    bad("count(4)", x -> x.count(4));
  }

  private static void noneSuch() {
    due.sentence("trace: NONE: none such. number: 0: none such.");
    for (int n : new int[] {-1, 250, Integer.MIN_VALUE, Integer.MAX_VALUE}) {
      due.changesNothing("trace(" + n + ")", RefusedTest::usual, x -> x.trace(n), Due.NONE);
      due.changesNothing("number(" + n + ")", RefusedTest::usual, x -> x.number(n), 0);
    }
  }

  private static void fullOfThings() {
    due.sentence("A new THING in a PLACE: its number. .. FULL.");
    for (int place = 0; place < 6; place++) {
      int p = place;
      due.changesNothing("thing(" + p + ")", RefusedTest::sixtyThings, x -> x.thing(p), Due.FULL);
    }
  }

  private static void fullBlock() {
    due.sentence("A STEP behind those of a BLOCK: how many it has. .. FULL (12 at most each).");
    due.changesNothing("step of a MARK", RefusedTest::twelveSteps, x -> x.step(0, Due.MARK, 5, 0, 0), Due.FULL);
    due.changesNothing("step of a TRY", RefusedTest::twelveSteps, x -> x.step(0, Due.TRY, 5, 1, 39), Due.FULL);
  }

  private static void fullOfSteps() {
    due.sentence("A STEP behind those of a BLOCK: how many it has. .. FULL (150 in all).");
    for (int block : new int[] {0, 38, 39}) {
      due.changesNothing("step of BLOCK " + block, RefusedTest::hundredAndFiftySteps,
          x -> x.step(block, Due.MARK, 5, 0, 0), Due.FULL);
    }
  }

  private static void fullOfRefusedHolds() {
    due.sentence("A RUN: .. FULL: 1500 HOLDS with none there were refused ever");
    due.changesNothing("run()", RefusedTest::refusedHolds, x -> x.run(), Due.FULL);
    due.changesNothing("run() of NEW", RefusedTest::refusedAndNew, x -> x.run(), Due.FULL);
  }

  private static void refusedAndNew(HoldBench x) {
    refusedHolds(x);
    x.clear(0);
    x.step(0, Due.NEW, 0, 0, 0);
    x.step(0, Due.DROP, 1, 0, 0);
  }

  private static void badAheadOfFullThings() {
    due.sentence("the first of these that fits: BAD, FULL (60 THINGS)");
    for (int p : new int[] {-1, 6, Integer.MIN_VALUE, Integer.MAX_VALUE}) {
      due.changesNothing("thing(" + p + ")", RefusedTest::sixtyThings, x -> x.thing(p), Due.BAD);
    }
  }

  private static void badAheadOfAFullBlock() {
    due.sentence("the first of these that fits: BAD, FULL (12 STEPS of the BLOCK)");
    due.changesNothing("kind 15", RefusedTest::twelveSteps, x -> x.step(0, 15, 1, 1, 1), Due.BAD);
    due.changesNothing("LOOP 6", RefusedTest::twelveSteps, x -> x.step(0, Due.LOOP, 6, 1, 1), Due.BAD);
    due.changesNothing("HOLD of PLACE 6", RefusedTest::twelveSteps, x -> x.step(0, Due.HOLD, 6, 1, 1), Due.BAD);
    due.changesNothing("CALL of BLOCK 0", RefusedTest::twelveSteps, x -> x.step(0, Due.CALL, 0, 0, 0), Due.BAD);
    due.changesNothing("BOTH, y = 40", RefusedTest::twelveSteps, x -> x.step(0, Due.BOTH, 0, 1, 40), Due.BAD);
  }

  private static void badAheadOfFullSteps() {
    due.sentence("the first of these that fits: BAD, FULL (150 STEPS)");
    due.changesNothing("BLOCK 40", RefusedTest::hundredAndFiftySteps, x -> x.step(40, Due.MARK, 0, 0, 0), Due.BAD);
    due.changesNothing("BLOCK -1", RefusedTest::hundredAndFiftySteps, x -> x.step(-1, Due.MARK, 0, 0, 0), Due.BAD);
    due.changesNothing("kind -1", RefusedTest::hundredAndFiftySteps, x -> x.step(39, -1, 0, 0, 0), Due.BAD);
    due.changesNothing("THROW 0", RefusedTest::hundredAndFiftySteps, x -> x.step(39, Due.THROW, 0, 0, 0), Due.BAD);
    due.changesNothing("ADD, x = 6", RefusedTest::hundredAndFiftySteps, x -> x.step(39, Due.ADD, 0, 6, 0), Due.BAD);
    due.changesNothing("CALL of BLOCK 40", RefusedTest::hundredAndFiftySteps, x -> x.step(39, Due.CALL, 0, 40, 0),
        Due.BAD);
  }

  private static void badGoesOnWhenRunsAreFull() {
    due.sentence("the first of these that fits: BAD (1500 refused HOLDS)");
    due.changesNothing("told(5)", RefusedTest::refusedHolds, x -> x.told(5), Due.BAD);
    due.changesNothing("count(4)", RefusedTest::refusedHolds, x -> x.count(4), Due.BAD);
    due.changesNothing("thing(6)", RefusedTest::refusedHolds, x -> x.thing(6), Due.BAD);
  }
}
