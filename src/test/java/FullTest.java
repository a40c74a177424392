/** Each sentence that names how much there is room for: the last that fits, the first that does not, and after. */
public final class FullTest {
  private static final Due due = new Due();

  public static void main(String[] args) {
    sixtyThings();
    sixtyThingsByNew();
    newBeyondSixty();
    droppedThingsMakeNoRoom();
    twelveSteps();
    twelveStepsOfEachBlock();
    hundredAndFiftySteps();
    clearMakesRoom();
    entriesUpTo250();
    holdsAcrossTheTracesEnd();
    sweepAcrossTheTracesEnd();
    traceThatIsLong();
    latestThingInTheTrace();
    fortyBlocks();
    fiveRounds();
    fiveHundredAndTwelveCalls();
    due.end();
  }

  private static HoldBench withThings(int howMany) {
    HoldBench x = new HoldBench();
    for (int i = 0; i < howMany; i++) due.is("thing " + i, x.thing(i % 6), i);
    return x;
  }

  private static void sixtyThings() {
    due.sentence("THINGS are numbered from 0 on as they come (60 at most)");
    HoldBench x = withThings(59);
    due.is("the 60th", x.thing(3), 59);
    due.is("the 61st", x.thing(3), Due.FULL);
    due.is("the 61st, in another PLACE", x.thing(4), Due.FULL);
    due.is("at(3)", x.at(3), 59);
    due.is("at(4)", x.at(4), 58);
    due.is("count(0)", x.count(0), 60);
  }

  private static void sixtyThingsByNew() {
    due.sentence("12 NEW: a new THING in PLACE a");
    HoldBench x = withThings(59);
    x.step(0, Due.NEW, 2, 0, 0);
    due.is("run(): the 60th", x.run(), 0);
    due.is("at(2)", x.at(2), 59);
    due.is("thing(0): the 61st", x.thing(0), Due.FULL);
    due.is("count(0)", x.count(0), 60);
    x = new HoldBench();
    x.step(0, Due.LOOP, 5, 1, 0);
    x.step(0, Due.NEW, 5, 0, 0);
    for (int i = 0; i < 12; i++) x.step(1, Due.NEW, i % 6, 0, 0);
    due.is("run(): 60, and one more", x.run(), 13);
    due.is("count(0)", x.count(0), 60);
    due.is("at(5)", x.at(5), 59);
  }

  private static void newBeyondSixty() {
    due.sentence("THROWS 13 if there are 60");
    for (int caught : new int[] {0, 11, 12, 13}) {
      HoldBench x = withThings(60);
      x.step(0, Due.TRY, caught, 1, 2);
      x.step(1, Due.NEW, 3, 0, 0);
      x.step(1, Due.MARK, 1, 0, 0);
      x.step(2, Due.MARK, 2, 0, 0);
      boolean isCaught = caught == 0 || caught == 13;
      due.is("TRY " + caught, x.run(), isCaught ? 0 : 13);
      due.is("TRY " + caught + ": trace(0)", x.trace(0), isCaught ? 10002 : Due.NONE);
      due.is("at(3) has what it had", x.at(3), 57);
      due.is("count(0)", x.count(0), 60);
    }
  }

  private static void droppedThingsMakeNoRoom() {
    due.sentence("numbered .. as they come (60 at most): those that stand nowhere, too");
    HoldBench x = withThings(60);
    for (int place = 0; place < 6; place++) x.set(place, Due.NONE);
    due.is("thing(0)", x.thing(0), Due.FULL);
    due.is("at(0)", x.at(0), Due.NONE);
    x.step(0, Due.NEW, 0, 0, 0);
    due.is("run()", x.run(), 13);
    due.is("at(0)", x.at(0), Due.NONE);
    x = withThings(60);
    for (int place = 0; place < 6; place++) x.step(0, Due.DROP, place, 0, 0);
    x.step(0, Due.NEW, 0, 0, 0);
    due.is("run() of DROPS and NEW", x.run(), 13);
    due.is("count(0)", x.count(0), 60);
    due.is("thing(0) behind the DROPS", x.thing(0), Due.FULL);
  }

  private static void twelveSteps() {
    due.sentence("rows of STEPS (none at first; 12 at most each");
    for (int block : new int[] {0, 1, 38, 39}) {
      HoldBench x = new HoldBench();
      for (int i = 1; i <= 12; i++) due.is("STEP " + i, x.step(block, Due.MARK, i, 0, 0), i);
      due.is("a 13th", x.step(block, Due.MARK, 13, 0, 0), Due.FULL);
      due.is("count(1)", x.count(1), 12);
      due.is("clear", x.clear(block), 12);
      due.is("a first one again", x.step(block, Due.MARK, 1, 0, 0), 1);
    }
  }

  private static void twelveStepsOfEachBlock() {
    due.sentence("12 at most each: a full BLOCK runs into no other one");
    HoldBench x = new HoldBench();
    x.step(0, Due.CALL, 0, 1, 0);
    x.step(0, Due.CALL, 0, 2, 0);
    for (int i = 0; i < 13; i++) x.step(1, Due.MARK, 100 + i, 0, 0);
    for (int i = 0; i < 13; i++) x.step(2, Due.MARK, 200 + i, 0, 0);
    due.is("run()", x.run(), 0);
    due.is("told(0)", x.told(0), 24);
    for (int i = 0; i < 12; i++) {
      due.is("trace(" + i + ")", x.trace(i), 10100 + i);
      due.is("trace(" + (12 + i) + ")", x.trace(12 + i), 10200 + i);
    }
  }

  private static HoldBench with150Steps() {
    HoldBench x = new HoldBench();
    for (int i = 0; i < 144; i++) x.step(i / 12, Due.MARK, i, 0, 0);
    for (int i = 0; i < 6; i++) due.is("STEP " + (144 + i), x.step(39, Due.MARK, i, 0, 0), i + 1);
    return x;
  }

  private static void hundredAndFiftySteps() {
    due.sentence("150 in all");
    HoldBench x = with150Steps();
    due.is("count(1)", x.count(1), 150);
    for (int block = 0; block < 40; block++) {
      due.is("a 151st, of BLOCK " + block, x.step(block, Due.MARK, 0, 0, 0), Due.FULL);
    }
    due.is("count(1)", x.count(1), 150);
    due.is("clear(20): it has none", x.clear(20), 0);
    due.is("clear(39)", x.clear(39), 6);
  }

  private static void clearMakesRoom() {
    due.sentence("A BLOCK has no STEPS: how many it had. (150 in all)");
    HoldBench x = with150Steps();
    due.is("clear(20): it has none", x.clear(20), 0);
    due.is("still full", x.step(20, Due.MARK, 0, 0, 0), Due.FULL);
    due.is("clear(3)", x.clear(3), 12);
    due.is("count(1)", x.count(1), 138);
    for (int i = 1; i <= 12; i++) due.is("in the room of those", x.step(20, Due.MARK, 0, 0, 0), i);
    due.is("full again", x.step(3, Due.MARK, 0, 0, 0), Due.FULL);
    due.is("count(1)", x.count(1), 150);
    due.is("run() of BLOCK 0", x.run(), 0);
    due.is("told(1)", x.told(1), 12);
  }

  /** 247 entries by 19 SWEEPS of 6 THINGS, and MARKS behind them; others of BLOCK 0 may follow. */
  private static HoldBench entries(int howMany) {
    HoldBench x = withThings(6);
    x.step(0, Due.CALL, 0, 36, 0);
    x.step(0, Due.CALL, 0, 37, 0);
    x.step(0, Due.CALL, 0, 38, 0);
    for (int i = 0; i < 12; i++) x.step(36, Due.SWEEP, 1, 0, 0);
    for (int i = 0; i < 7; i++) x.step(37, Due.SWEEP, 1, 0, 0);
    Due.marks(x, 38, howMany - 247);
    return x;
  }

  private static void entriesUpTo250() {
    due.sentence("The TRACE has the first 250; others are counted.");
    for (int howMany = 247; howMany <= 254; howMany++) {
      HoldBench x = entries(howMany);
      due.is("run()", x.run(), 0);
      due.is("told(0)", x.told(0), howMany);
      due.is("trace(246)", x.trace(246), 10000);
      for (int i = 247; i < 256; i++) {
        int want = i < howMany && i < 250 ? 10000 + i - 247 : Due.NONE;
        due.is("trace(" + i + ") of " + howMany, x.trace(i), want);
      }
    }
  }

  private static void holdsAcrossTheTracesEnd() {
    due.sentence("The TRACE has the first 250; others are counted. (HOLDS)");
    for (int howMany = 247; howMany <= 251; howMany++) {
      HoldBench x = entries(howMany);
      x.step(0, Due.HOLD, 4, 10, 0);
      x.step(10, Due.THROW, 3, 0, 0);
      due.is("run()", x.run(), 3);
      due.is("told(0)", x.told(0), howMany + 2);
      due.is("told(2)", x.told(2), 19 * 6 + 1);
      due.is("told(4)", x.told(4), 1);
      due.is("it begins at " + howMany, x.trace(howMany), howMany < 250 ? 1004 : Due.NONE);
      due.is("it is left at " + (howMany + 1), x.trace(howMany + 1), howMany + 1 < 250 ? 2404 : Due.NONE);
    }
  }

  private static void sweepAcrossTheTracesEnd() {
    due.sentence("The TRACE has the first 250; others are counted. (a SWEEP)");
    HoldBench x = entries(247);
    x.step(0, Due.SWEEP, 1, 0, 0);
    due.is("run()", x.run(), 0);
    due.is("told(0)", x.told(0), 260);
    due.is("trace(247)", x.trace(247), 1000);
    due.is("trace(248)", x.trace(248), 2000);
    due.is("trace(249)", x.trace(249), 1001);
    due.is("trace(250)", x.trace(250), Due.NONE);
  }

  private static void traceThatIsLong() {
    due.sentence("0 how many came into the TRACE (all)");
    HoldBench x = withThings(6);
    for (int i = 0; i < 12; i++) x.step(0, Due.CALL, 0, 1, 0);
    for (int i = 0; i < 12; i++) x.step(1, Due.CALL, 0, 2, 0);
    x.step(2, Due.SWEEP, 1, 0, 0);
    due.is("run(): 12 and 144 and 144 STEPS", x.run(), 0);
    due.is("told(0)", x.told(0), 144 * 13);
    due.is("told(1)", x.told(1), 300);
    due.is("told(2)", x.told(2), 144 * 6);
    due.is("told(3)", x.told(3), 1);
    for (int i = 0; i < 250; i++) {
      int at = i % 13;
      due.is("trace(" + i + ")", x.trace(i), at == 12 ? 10000 : at % 2 == 0 ? 1000 + at / 2 : 2000 + at / 2);
    }
    x.clear(0);
    due.is("run() of nothing", x.run(), 0);
    due.is("told(0) of it", x.told(0), 0);
    due.is("trace(0) of it", x.trace(0), Due.NONE);
    due.is("trace(249) of it", x.trace(249), Due.NONE);
  }

  private static void latestThingInTheTrace() {
    due.sentence("1000 and the THING's number, as it is left as 2000 + 100 how + that");
    HoldBench x = withThings(60);
    x.step(0, Due.HOLD, 5, 1, 0);
    x.step(1, Due.THROW, 1, 0, 0);
    due.is("run()", x.run(), 1);
    due.trace("THING 59", x, 1059, 2459);
  }

  private static void fortyBlocks() {
    due.sentence("BLOCKS 0 to 39 (each in the one before it)");
    for (int kind : new int[] {Due.HOLD, Due.LOOP, Due.TRY, Due.BOTH, Due.CALL}) {
      HoldBench x = new HoldBench();
      x.thing(1);
      for (int block = 0; block < 38; block++) x.step(block, kind, 1, block + 1, 39);
      x.step(38, Due.CALL, 0, 39, 0);
      x.step(39, Due.MARK, 7, 0, 0);
      due.is("kind " + kind + ", run()", x.run(), 0);
      due.is("kind " + kind + ", told(1)", x.told(1), kind == Due.BOTH ? 40 + 38 : 40);
      due.is("kind " + kind + ", told(3)", x.told(3), kind == Due.HOLD ? 38 : 0);
      due.is("kind " + kind + ", the MARK", x.trace(kind == Due.HOLD ? 38 : 0), 10007);
    }
  }

  private static void fiveRounds() {
    due.sentence("2 LOOP: BLOCK x, a times (.. 5): BREAK and NEXT in the last round");
    for (int kind : new int[] {Due.BREAK, Due.NEXT}) {
      HoldBench x = new HoldBench();
      x.step(0, Due.LOOP, 1, 1, 0);
      x.step(0, Due.MARK, 1, 0, 0);
      x.step(1, kind, 0, 0, 0);
      x.step(1, Due.MARK, 2, 0, 0);
      due.is("kind " + kind + " in the only round", x.run(), 0);
      due.trace("kind " + kind + " in the only round", x, 10001);
    }
    HoldBench x = new HoldBench();
    x.step(0, Due.LOOP, 5, 1, 0);
    x.step(1, Due.NEXT, 0, 0, 0);
    due.is("NEXT in each round", x.run(), 0);
    due.is("told(1)", x.told(1), 6);
    x.clear(1);
    x.step(1, Due.BREAK, 0, 0, 0);
    due.is("BREAK in the first round", x.run(), 0);
    due.is("told(1)", x.told(1), 2);
  }

  private static void fiveHundredAndTwelveCalls() {
    due.sentence("An object is used for at most 512 calls after it has been made");
    HoldBench x = new HoldBench();
    x.step(0, Due.NEW, 0, 0, 0);
    for (int i = 1; i <= 510; i++) due.is("run " + i, x.run(), i <= 60 ? 0 : 13);
    due.is("count(2), the 512th call", x.count(2), 510);
  }
}
