/** Each sentence that names what is empty: no THING, no STEPS, no rounds, no LOOP, no RUN. */
public final class EmptyTest {
  private static final Due due = new Due();

  public static void main(String[] args) {
    newObject();
    noRunYet();
    traceOfNothing();
    toldOfNothing();
    noThingInAPlace();
    noThings();
    setOfNone();
    setOfAnEmptyPlace();
    holdOfNone();
    holdOfNoneInsideAHold();
    addToNone();
    depthOfNone();
    depthOfTwo();
    stepSetOfNone();
    dropOfNone();
    sweepOfNone();
    blockWithoutSteps();
    clearOfNoSteps();
    holdOfAnEmptyBlock();
    loopOfAnEmptyBlock();
    loopOfNoRounds();
    tryOfEmptyBlocks();
    bothOfEmptyBlocks();
    bothWithAnEmptySecond();
    callOfAnEmptyBlock();
    noLoop();
    innermostLoop();
    noLoopInTheCall();
    due.end();
  }

  private static void run(String what, HoldBench x, int answer, int... trace) {
    due.is(what + ": run()", x.run(), answer);
    due.trace(what, x, trace);
  }

  private static HoldBench with(int kind, int a, int x, int y) {
    HoldBench bench = new HoldBench();
    due.is("step of kind " + kind, bench.step(0, kind, a, x, y), 1);
    return bench;
  }

  private static void newObject() {
    due.sentence("No THINGS, no STEPS; there was no RUN.");
    HoldBench x = new HoldBench();
    for (int what = 0; what < 4; what++) due.is("count(" + what + ")", x.count(what), 0);
    for (int block = 0; block < 40; block++) due.is("clear(" + block + ")", x.clear(block), 0);
    for (int block = 0; block < 40; block++) due.is("a first STEP", x.step(block, Due.MARK, 0, 0, 0), 1);
    due.is("a first THING", x.thing(0), 0);
  }

  private static void noRunYet() {
    due.sentence("0: there was none.");
    HoldBench x = new HoldBench();
    for (int what = 0; what < 5; what++) due.is("told(" + what + ")", x.told(what), 0);
    x.thing(0);
    x.step(0, Due.HOLD, 0, 1, 0);
    x.step(1, Due.SWEEP, 0, 0, 0);
    for (int what = 0; what < 5; what++) due.is("told(" + what + ") with STEPS", x.told(what), 0);
    for (int i = -1; i <= 250; i++) due.is("trace(" + i + ") with STEPS", x.trace(i), Due.NONE);
    due.is("count(2)", x.count(2), 0);
  }

  private static void traceOfNothing() {
    due.sentence("Entry i of the TRACE of the latest RUN; NONE: none such");
    HoldBench x = with(Due.MARK, 5, 0, 0);
    run("a RUN with one entry", x, 0, 10005);
    x.clear(0);
    run("a RUN with none behind it", x, 0);
    for (int i = 0; i < 250; i++) due.is("trace(" + i + ")", x.trace(i), Due.NONE);
  }

  private static void toldOfNothing() {
    due.sentence("Of the latest RUN: 0 how many came into the TRACE .. 4 ..");
    HoldBench x = with(Due.HOLD, 0, 1, 0);
    x.thing(0);
    x.step(1, Due.THROW, 2, 0, 0);
    run("a RUN with a HOLD that is left by what is THROWN", x, 2, 1000, 2400);
    int[] want = {2, 2, 1, 1, 1};
    for (int what = 0; what < 5; what++) due.is("told(" + what + ") of it", x.told(what), want[what]);
    x.clear(0);
    run("a RUN with none behind it", x, 0);
    for (int what = 0; what < 5; what++) due.is("told(" + what + ")", x.told(what), 0);
  }

  private static void noThingInAPlace() {
    due.sentence("The THING in a PLACE: its number; NONE.");
    HoldBench x = new HoldBench();
    for (int place = 0; place < 6; place++) due.is("at(" + place + ")", x.at(place), Due.NONE);
    x.thing(2);
    for (int place = 0; place < 6; place++) due.is("at(" + place + ")", x.at(place), place == 2 ? 0 : Due.NONE);
  }

  private static void noThings() {
    due.sentence("NUMBER of a THING. 0: none such.");
    HoldBench x = new HoldBench();
    for (int thing = -2; thing <= 61; thing++) due.is("number(" + thing + ")", x.number(thing), 0);
  }

  private static void setOfNone() {
    due.sentence("(b = NONE: none): the THING's number; NONE.");
    HoldBench x = new HoldBench();
    due.is("set(0, NONE) of a PLACE with none", x.set(0, Due.NONE), Due.NONE);
    x.thing(0);
    due.is("set(0, NONE)", x.set(0, Due.NONE), Due.NONE);
    due.is("at(0)", x.at(0), Due.NONE);
    due.is("count(0): the THING is still there", x.count(0), 1);
  }

  private static void setOfAnEmptyPlace() {
    due.sentence("PLACE a has what PLACE b has");
    HoldBench x = new HoldBench();
    x.thing(0);
    due.is("set(0, 1)", x.set(0, 1), Due.NONE);
    due.is("at(0)", x.at(0), Due.NONE);
    due.is("set(3, 3)", x.set(3, 3), Due.NONE);
    due.is("at(3)", x.at(3), Due.NONE);
  }

  private static void holdOfNone() {
    due.sentence("with none there it THROWS 12, and nothing is HELD");
    for (int place = 0; place < 6; place++) {
      HoldBench x = with(Due.HOLD, place, 1, 0);
      x.step(0, Due.MARK, 1, 0, 0);
      x.step(1, Due.MARK, 2, 0, 0);
      for (int other = 0; other < 6; other++) if (other != place) x.thing(other);
      run("HOLD of PLACE " + place, x, 12);
      due.is("told(1)", x.told(1), 1);
      for (int what = 2; what < 5; what++) due.is("told(" + what + ")", x.told(what), 0);
      due.is("count(3)", x.count(3), 1);
    }
  }

  private static void holdOfNoneInsideAHold() {
    due.sentence("with none there it THROWS 12, and nothing is HELD (in a HOLD of another)");
    HoldBench x = with(Due.HOLD, 0, 1, 0);
    x.thing(0);
    x.step(1, Due.TRY, 12, 2, 3);
    x.step(1, Due.ADD, 4, 0, 0);
    x.step(2, Due.HOLD, 1, 3, 0);
    x.step(3, Due.MARK, 3, 0, 0);
    run("HOLD of none in a HOLD", x, 0, 1000, 10003, 2000);
    due.is("number(0): that HOLD goes on", x.number(0), 4);
    due.is("told(2)", x.told(2), 1);
    due.is("told(3)", x.told(3), 1);
    due.is("told(4)", x.told(4), 0);
    x.clear(0);
    x.step(0, Due.ADD, 4, 0, 0);
    due.is("not HELD behind it", x.run(), 11);
  }

  private static void addToNone() {
    due.sentence("10 ADD: .. THROWS 12 with none there, 11 if it is not HELD");
    HoldBench x = with(Due.ADD, 1, 0, 0);
    run("ADD to none", x, 12);
    due.is("count(3): no HOLD was refused", x.count(3), 0);
    x.thing(0);
    run("ADD to what is not HELD", x, 11);
    x.thing(1);
    x.clear(0);
    x.step(0, Due.HOLD, 1, 1, 0);
    x.step(1, Due.ADD, 1, 0, 0);
    run("ADD to what is not HELD, while another one is", x, 11, 1001, 2401);
    x.set(0, Due.NONE);
    run("ADD to none, while another one is HELD", x, 12, 1001, 2401);
    due.is("number(0)", x.number(0), 0);
    due.is("number(1)", x.number(1), 0);
  }

  private static void depthOfNone() {
    due.sentence("a DEPTH: how many HOLDS of it are under way (0 at first)");
    int[] kinds = {Due.MARK, Due.BREAK, Due.NEXT, Due.RETURN, Due.THROW};
    for (int kind : kinds) {
      HoldBench x = with(Due.TRY, 0, 1, 9);
      x.thing(0);
      x.step(0, Due.ADD, 1, 0, 0);
      x.step(1, Due.CALL, 0, 2, 0);
      x.step(2, Due.LOOP, 1, 3, 0);
      x.step(3, Due.HOLD, 0, 4, 0);
      x.step(4, Due.HOLD, 0, 5, 0);
      x.step(5, kind, 1, 0, 0);
      due.is("ADD behind HOLDS that were left by kind " + kind, x.run(), 11);
      due.is("told(2)", x.told(2), 2);
      due.is("ADD in the next RUN", x.run(), 11);
      due.is("number(0)", x.number(0), 0);
    }
    HoldBench x = with(Due.SWEEP, 9, 0, 0);
    x.thing(0);
    x.step(0, Due.ADD, 1, 0, 0);
    due.is("ADD behind a SWEEP", x.run(), 11);
  }

  private static void depthOfTwo() {
    due.sentence("a DEPTH: how many HOLDS of it are under way (two, and one of them left)");
    HoldBench x = with(Due.HOLD, 0, 1, 0);
    x.thing(0);
    x.set(3, 0);
    x.step(1, Due.HOLD, 3, 2, 0);
    x.step(1, Due.ADD, 10, 0, 0);
    x.step(1, Due.SWEEP, 9, 0, 0);
    x.step(1, Due.ADD, 100, 3, 0);
    x.step(2, Due.ADD, 1, 0, 0);
    run("a THING that is HELD twice", x, 0, 1000, 1000, 2000, 1000, 2000, 1000, 2000, 10022, 2000);
    due.is("number(0)", x.number(0), 111);
    due.is("told(3)", x.told(3), 2);
  }

  private static void stepSetOfNone() {
    due.sentence("11 SET: PLACE a has what PLACE x has (none)");
    HoldBench x = with(Due.SET, 0, 5, 0);
    x.thing(0);
    run("SET of none", x, 0);
    due.is("at(0)", x.at(0), Due.NONE);
    run("SET of none to none", x, 0);
    due.is("at(0)", x.at(0), Due.NONE);
  }

  private static void dropOfNone() {
    due.sentence("13 DROP: PLACE a has none.");
    HoldBench x = with(Due.DROP, 4, 0, 0);
    run("DROP with none there", x, 0);
    due.is("at(4)", x.at(4), Due.NONE);
    x.thing(4);
    run("DROP", x, 0);
    due.is("at(4)", x.at(4), Due.NONE);
    due.is("count(0)", x.count(0), 1);
  }

  private static void sweepOfNone() {
    due.sentence("14 SWEEP: PLACES 0 to 5 in turn: with none it is passed over");
    HoldBench x = with(Due.SWEEP, 0, 0, 0);
    run("SWEEP of no THINGS", x, 0, 10000);
    for (int what = 2; what < 5; what++) due.is("told(" + what + ")", x.told(what), 0);
    due.is("count(3): no HOLD was refused", x.count(3), 0);
    x.thing(5);
    run("SWEEP of the last PLACE alone", x, 0, 1000, 2000, 10000);
    x.set(0, 5);
    x.set(5, Due.NONE);
    run("SWEEP of the first PLACE alone", x, 0, 1000, 2000, 10000);
  }

  private static void blockWithoutSteps() {
    due.sentence("A RUN does BLOCK 0. (none at first)");
    HoldBench x = new HoldBench();
    x.step(1, Due.THROW, 1, 0, 0);
    run("BLOCK 0 without STEPS", x, 0);
    due.is("told(1)", x.told(1), 0);
    due.is("count(2)", x.count(2), 1);
  }

  private static void clearOfNoSteps() {
    due.sentence("A BLOCK has no STEPS: how many it had.");
    HoldBench x = with(Due.MARK, 1, 0, 0);
    due.is("clear(1)", x.clear(1), 0);
    due.is("clear(0)", x.clear(0), 1);
    due.is("clear(0) again", x.clear(0), 0);
    due.is("count(1)", x.count(1), 0);
    run("a RUN of what was cleared", x, 0);
  }

  private static void holdOfAnEmptyBlock() {
    due.sentence("1 HOLD: the THING in PLACE a is HELD while BLOCK x is done (no STEPS)");
    HoldBench x = with(Due.HOLD, 0, 1, 0);
    x.thing(0);
    run("HOLD of an empty BLOCK", x, 0, 1000, 2000);
    due.is("told(2)", x.told(2), 1);
    due.is("told(3)", x.told(3), 1);
  }

  private static void loopOfAnEmptyBlock() {
    due.sentence("2 LOOP: BLOCK x, a times (no STEPS)");
    HoldBench x = with(Due.LOOP, 5, 1, 0);
    x.step(0, Due.MARK, 1, 0, 0);
    run("LOOP of an empty BLOCK", x, 0, 10001);
    due.is("told(1)", x.told(1), 2);
  }

  private static void loopOfNoRounds() {
    due.sentence("2 LOOP: BLOCK x, a times (0 ..)");
    HoldBench x = with(Due.LOOP, 0, 1, 0);
    x.step(0, Due.MARK, 1, 0, 0);
    x.step(1, Due.THROW, 4, 0, 0);
    run("LOOP of 0 rounds", x, 0, 10001);
    due.is("told(1)", x.told(1), 2);
    x = with(Due.LOOP, 2, 1, 0);
    x.step(0, Due.MARK, 1, 0, 0);
    x.step(1, Due.LOOP, 0, 2, 0);
    x.step(1, Due.BREAK, 0, 0, 0);
    x.step(2, Due.MARK, 2, 0, 0);
    run("BREAK behind a LOOP of 0 rounds", x, 0, 10001);
    due.is("told(1)", x.told(1), 4);
  }

  private static void tryOfEmptyBlocks() {
    due.sentence("7 TRY: BLOCK x; what it THROWS, .. is caught, and BLOCK y done (no STEPS)");
    HoldBench x = with(Due.TRY, 0, 1, 2);
    x.step(0, Due.MARK, 1, 0, 0);
    x.step(2, Due.MARK, 2, 0, 0);
    run("TRY of an empty BLOCK", x, 0, 10001);
    x.clear(2);
    x.step(1, Due.THROW, 3, 0, 0);
    run("TRY whose second BLOCK is empty", x, 0, 10001);
    x.step(2, Due.THROW, 3, 0, 0);
    run("what the second BLOCK THROWS is not caught", x, 3);
    x.clear(1);
    x.clear(2);
    run("TRY whose BLOCKS are both empty", x, 0, 10001);
  }

  private static void bothOfEmptyBlocks() {
    due.sentence("8 BOTH: BLOCK x, and then in any case BLOCK y (no STEPS)");
    HoldBench x = with(Due.BOTH, 0, 1, 2);
    x.step(0, Due.MARK, 1, 0, 0);
    run("BOTH whose BLOCKS are both empty", x, 0, 10001);
    x.step(2, Due.MARK, 2, 0, 0);
    run("BOTH whose first BLOCK is empty", x, 0, 10002, 10001);
    x.step(2, Due.THROW, 3, 0, 0);
    run("BOTH whose first BLOCK is empty, the second throws", x, 3, 10002);
  }

  private static void bothWithAnEmptySecond() {
    due.sentence("if y does not come to its end, it goes as y goes, else as x did (no STEPS of y)");
    int[] kinds = {Due.MARK, Due.BREAK, Due.NEXT, Due.RETURN, Due.THROW};
    for (int how = 0; how < kinds.length; how++) {
      HoldBench x = with(Due.LOOP, 1, 1, 0);
      x.thing(0);
      x.step(1, Due.HOLD, 0, 2, 0);
      x.step(2, Due.BOTH, 0, 3, 4);
      x.step(3, kinds[how], 7, 0, 0);
      due.is("BOTH of kind " + kinds[how], x.run(), how == 4 ? 7 : 0);
      due.is("how the HOLD around it is left", x.trace(how == 0 ? 2 : 1), 2000 + 100 * how);
    }
  }

  private static void callOfAnEmptyBlock() {
    due.sentence("9 CALL: BLOCK x. (no STEPS)");
    HoldBench x = with(Due.CALL, 0, 39, 0);
    x.step(0, Due.MARK, 1, 0, 0);
    run("CALL of an empty BLOCK", x, 0, 10001);
    due.is("told(1)", x.told(1), 2);
  }

  private static void noLoop() {
    due.sentence("(3, 4 without a LOOP in that .. run: as 5.)");
    for (int kind : new int[] {Due.BREAK, Due.NEXT, Due.RETURN}) {
      for (int block = 1; block <= 4; block++) {
        HoldBench x = leaving(kind, block);
        x.step(0, Due.CALL, 0, 1, 0);
        x.step(0, Due.MARK, 1, 0, 0);
        String what = "kind " + kind + " in BLOCK x or y, sort " + block + ", without a LOOP";
        run(what, x, 0, 1000, 2300, 10001);
        due.is(what + ": told(4)", x.told(4), 0);
      }
    }
  }

  private static void innermostLoop() {
    due.sentence("3 BREAK: leaves the innermost LOOP; 4 NEXT: goes on with its next round");
    for (int block = 1; block <= 4; block++) {
      HoldBench x = leaving(Due.BREAK, block);
      x.step(0, Due.LOOP, 2, 1, 0);
      x.step(0, Due.MARK, 1, 0, 0);
      run("BREAK in BLOCK x or y, sort " + block, x, 0, 1000, 2100, 10001);
      x = leaving(Due.NEXT, block);
      x.step(0, Due.LOOP, 2, 1, 0);
      x.step(0, Due.MARK, 1, 0, 0);
      run("NEXT in BLOCK x or y, sort " + block, x, 0, 1000, 2200, 1000, 2200, 10001);
    }
  }

  /** BLOCK 1 is left out of a HOLD, in BLOCK x (sorts 1, 2) or y (3, 4) of a TRY (1, 3) or a BOTH (2, 4). */
  private static HoldBench leaving(int kind, int sort) {
    HoldBench x = new HoldBench();
    x.thing(0);
    boolean first = sort <= 2;
    x.step(1, Due.HOLD, 0, 2, 0);
    x.step(1, Due.MARK, 3, 0, 0);
    x.step(2, sort % 2 == 1 ? Due.TRY : Due.BOTH, 0, first ? 4 : 5, first ? 6 : 4);
    x.step(2, Due.MARK, 3, 0, 0);
    x.step(4, kind, 0, 0, 0);
    x.step(4, Due.MARK, 3, 0, 0);
    x.step(5, Due.THROW, 1, 0, 0);
    return x;
  }

  private static void noLoopInTheCall() {
    due.sentence("(3, 4 without a LOOP in that CALL ..: as 5.)");
    for (int kind : new int[] {Due.BREAK, Due.NEXT, Due.RETURN}) {
      HoldBench x = with(Due.LOOP, 2, 1, 0);
      x.thing(0);
      x.step(0, Due.MARK, 1, 0, 0);
      x.step(1, Due.CALL, 0, 2, 0);
      x.step(1, Due.MARK, 2, 0, 0);
      x.step(2, Due.HOLD, 0, 3, 0);
      x.step(2, Due.MARK, 3, 0, 0);
      x.step(3, kind, 0, 0, 0);
      run("kind " + kind + " without a LOOP in the CALL", x, 0, 1000, 2300, 10002, 1000, 2300, 10002, 10001);
    }
  }
}
