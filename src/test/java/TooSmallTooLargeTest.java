/** Each sentence that names the least and the greatest number: all between are taken, what is beyond is not. */
public final class TooSmallTooLargeTest {
  private static final Due due = new Due();
  private static final int[] NAMING = {Due.HOLD, Due.LOOP, Due.TRY, Due.BOTH, Due.CALL};
  private static final int[] NAMING_TWO = {Due.TRY, Due.BOTH};

  /** A call of a new object with one number that is looked at. */
  private interface Call {
    int answer(HoldBench x, int number);
  }

  public static void main(String[] args) {
    placesOfCalls();
    placesOfSteps();
    noneIsNoPlaceOfAStep();
    blocks();
    kinds();
    loopRounds();
    thrownNumbers();
    caughtNumbers();
    blocksThatAreNamed();
    noBlockIsGreaterThanTheLast();
    numbersThatAreNotLookedAt();
    whatOfTold();
    whatOfCount();
    entriesOfTheTrace();
    numbersOfThings();
    due.end();
  }

  private static void within(String call, int least, int most, Call c) {
    for (int n = least; n <= most; n++) {
      due.isTrue(call + " " + n + " is taken", c.answer(new HoldBench(), n) >= Due.NONE);
    }
    due.is(call + " " + (least - 1), c.answer(new HoldBench(), least - 1), Due.BAD);
    due.is(call + " " + (most + 1), c.answer(new HoldBench(), most + 1), Due.BAD);
    never(call, c);
  }

  private static void never(String call, Call c) {
    for (int n : Due.BEYOND_ALL) due.is(call + " " + n, c.answer(new HoldBench(), n), Due.BAD);
  }

  private static void placesOfCalls() {
    due.sentence("PLACES 0 to 5");
    within("thing", 0, 5, (x, n) -> x.thing(n));
    within("at", 0, 5, (x, n) -> x.at(n));
    within("set, a", 0, 5, (x, n) -> x.set(n, 0));
    within("set to none, a", 0, 5, (x, n) -> x.set(n, Due.NONE));
    due.sentence("PLACE a has what PLACE b has (b = NONE: none)");
    within("set, b", -1, 5, (x, n) -> x.set(0, n));
  }

  private static void placesOfSteps() {
    due.sentence("BAD: .. PLACES");
    within("HOLD, a", 0, 5, (x, n) -> x.step(0, Due.HOLD, n, 1, 0));
    within("ADD, x", 0, 5, (x, n) -> x.step(0, Due.ADD, 0, n, 0));
    within("SET, a", 0, 5, (x, n) -> x.step(0, Due.SET, n, 0, 0));
    within("SET, x", 0, 5, (x, n) -> x.step(0, Due.SET, 0, n, 0));
    within("NEW, a", 0, 5, (x, n) -> x.step(0, Due.NEW, n, 0, 0));
    within("DROP, a", 0, 5, (x, n) -> x.step(0, Due.DROP, n, 0, 0));
  }

  private static void noneIsNoPlaceOfAStep() {
    due.sentence("11 SET: PLACE a has what PLACE x has");
    HoldBench x = new HoldBench();
    due.is("SET, x = NONE", x.step(0, Due.SET, 0, Due.NONE, 0), Due.BAD);
    due.is("count(1)", x.count(1), 0);
  }

  private static void blocks() {
    due.sentence("BLOCKS 0 to 39");
    within("step", 0, 39, (x, n) -> x.step(n, Due.MARK, 0, 0, 0));
    within("clear", 0, 39, (x, n) -> x.clear(n));
    for (int kind : NAMING) {
      within("step of kind " + kind, 0, 38, (x, n) -> x.step(n, kind, 1, 39, 39));
    }
  }

  private static void kinds() {
    due.sentence("kind (0 to 14)");
    within("step, kind", 0, 14, (x, n) -> x.step(0, n, 1, 1, 1));
  }

  private static void loopRounds() {
    due.sentence("2 LOOP: BLOCK x, a times (0 to 5)");
    within("LOOP, a", 0, 5, (x, n) -> x.step(0, Due.LOOP, n, 1, 0));
    for (int a = 0; a <= 5; a++) {
      HoldBench x = new HoldBench();
      x.step(0, Due.LOOP, a, 1, 0);
      x.step(1, Due.MARK, 3, 0, 0);
      x.run();
      due.is("LOOP " + a + ", told(0)", x.told(0), a);
    }
  }

  private static void thrownNumbers() {
    due.sentence("6 THROW a (1 to 9)");
    within("THROW, a", 1, 9, (x, n) -> x.step(0, Due.THROW, n, 0, 0));
    for (int a = 1; a <= 9; a++) {
      HoldBench x = new HoldBench();
      x.step(0, Due.THROW, a, 0, 0);
      due.is("run() of THROW " + a, x.run(), a);
    }
  }

  private static void caughtNumbers() {
    due.sentence("what it THROWS, if it is a (1 to 13; 0: any), is caught");
    within("TRY, a", 0, 13, (x, n) -> x.step(0, Due.TRY, n, 1, 1));
    for (int a = 0; a <= 13; a++) {
      for (int thrown = 1; thrown <= 9; thrown++) {
        HoldBench x = new HoldBench();
        x.step(0, Due.TRY, a, 1, 2);
        x.step(1, Due.THROW, thrown, 0, 0);
        x.step(2, Due.MARK, 0, 0, 0);
        boolean caught = a == 0 || a == thrown;
        due.is("TRY " + a + " of THROW " + thrown, x.run(), caught ? 0 : thrown);
        due.is("BLOCK y of TRY " + a + " of THROW " + thrown, x.told(0), caught ? 1 : 0);
      }
    }
  }

  private static void blocksThatAreNamed() {
    due.sentence("BLOCKS that it names are greater than its own one");
    for (int own = 0; own < 39; own++) {
      int block = own;
      for (int kind : NAMING) {
        within("kind " + kind + " of BLOCK " + own + ", x", own + 1, 39, (x, n) -> x.step(block, kind, 1, n, 39));
        due.is("its own one", new HoldBench().step(own, kind, 1, own, 39), Due.BAD);
        due.is("BLOCK -1", new HoldBench().step(own, kind, 1, -1, 39), Due.BAD);
      }
      for (int kind : NAMING_TWO) {
        within("kind " + kind + " of BLOCK " + own + ", y", own + 1, 39, (x, n) -> x.step(block, kind, 1, 39, n));
        due.is("its own one", new HoldBench().step(own, kind, 1, 39, own), Due.BAD);
        due.is("BLOCK -1", new HoldBench().step(own, kind, 1, 39, -1), Due.BAD);
      }
    }
  }

  private static void noBlockIsGreaterThanTheLast() {
    due.sentence("BLOCKS that it names are greater than its own one (of BLOCK 39: none)");
    for (int kind : NAMING) {
      for (int n = -1; n <= 41; n++) {
        due.is("kind " + kind + " of BLOCK 39 names " + n, new HoldBench().step(39, kind, 1, n, n), Due.BAD);
      }
    }
  }

  private static void numbersThatAreNotLookedAt() {
    due.sentence("BAD: .. a (of 2, 6, 7), BLOCKS x, y that it names");
    for (int n : new int[] {-3, -2, -1, 0, 5, 6, 9, 10, 13, 14, 39, 40, Integer.MIN_VALUE, Integer.MAX_VALUE}) {
      for (int kind : new int[] {Due.MARK, Due.BREAK, Due.NEXT, Due.RETURN, Due.SWEEP}) {
        taken(39, kind, n, n, n);
      }
      taken(39, Due.THROW, 1, n, n);
      taken(39, Due.NEW, 0, n, n);
      taken(39, Due.DROP, 0, n, n);
      taken(39, Due.ADD, n, 0, n);
      taken(39, Due.SET, 0, 0, n);
      taken(0, Due.HOLD, 0, 1, n);
      taken(0, Due.LOOP, 0, 1, n);
      taken(0, Due.CALL, n, 1, n);
      taken(0, Due.BOTH, n, 1, 1);
    }
  }

  private static void taken(int block, int kind, int a, int x, int y) {
    due.is("step(" + block + ", " + kind + ", " + a + ", " + x + ", " + y + ")",
        new HoldBench().step(block, kind, a, x, y), 1);
  }

  private static void whatOfTold() {
    due.sentence("Of the latest RUN: 0 .. 1 .. 2 .. 3 .. 4 .. BAD");
    within("told before a RUN", 0, 4, (x, n) -> x.told(n));
    within("told behind a RUN", 0, 4, (x, n) -> x.run() == 0 ? x.told(n) : Due.FULL);
  }

  private static void whatOfCount() {
    due.sentence("How many: 0 .. 1 .. 2 .. 3 .. BAD");
    within("count", 0, 3, (x, n) -> x.count(n));
    within("count behind a RUN", 0, 3, (x, n) -> x.run() == 0 ? x.count(n) : Due.FULL);
  }

  private static void entriesOfTheTrace() {
    due.sentence("Entry i (0 to 249) of the TRACE of the latest RUN; NONE: none such (below 0, too)");
    HoldBench x = new HoldBench();
    x.step(0, Due.LOOP, 5, 1, 0);
    x.step(1, Due.LOOP, 5, 2, 0);
    Due.marks(x, 2, 11);
    due.is("run()", x.run(), 0);
    due.is("told(0)", x.told(0), 275);
    for (int i = 0; i <= 249; i++) due.is("trace(" + i + ")", x.trace(i), 10000 + i % 11);
    for (int i = 250; i <= 276; i++) due.is("trace(" + i + ")", x.trace(i), Due.NONE);
    for (int i = -3; i <= -1; i++) due.is("trace(" + i + ")", x.trace(i), Due.NONE);
    for (int i : Due.BEYOND_ALL) due.is("trace(" + i + ")", x.trace(i), Due.NONE);
  }

  private static void numbersOfThings() {
    due.sentence("NUMBER of a THING. 0: none such.");
    HoldBench x = new HoldBench();
    for (int i = 0; i < 60; i++) {
      x.thing(0);
      if (i == 0 || i == 59) raise(x, i + 100);
    }
    due.is("number(0)", x.number(0), 100);
    due.is("number(59)", x.number(59), 159);
    due.is("number(-1)", x.number(-1), 0);
    due.is("number(60)", x.number(60), 0);
    for (int i : Due.BEYOND_ALL) due.is("number(" + i + ")", x.number(i), 0);
    x = new HoldBench();
    x.thing(0);
    raise(x, 5);
    due.is("number(0) of one THING", x.number(0), 5);
    for (int i = 1; i < 60; i++) due.is("number(" + i + ") of one THING", x.number(i), 0);
  }

  /** The THING in PLACE 0 becomes so much more. */
  private static void raise(HoldBench x, int more) {
    x.clear(0);
    x.clear(1);
    x.step(0, Due.HOLD, 0, 1, 0);
    x.step(1, Due.ADD, more, 0, 0);
    due.is("run()", x.run(), 0);
  }
}
