/** The 300th and the 301st STEP, and the 1500th refused HOLD. */
public final class SpentTest {
  private static final Due due = new Due();

  public static void main(String[] args) {
    countsOfSteps();
    lastStepOfEachKind();
    stepBeyondOfEachKind();
    stepsThatAreBegun();
    holdAtTheEnd();
    loopAtTheEnd();
    nothingIsCaught();
    tryAtTheEnd();
    noSecondBlock();
    bothAtTheEnd();
    allHoldsAreLeft();
    whatWasDoneStays();
    nextRunBeginsAnew();
    refusedHolds();
    moreRefusedHoldsOfARunUnderWay();
    refusedHoldsThatAreNotCaught();
    refusedHoldsAreNeverForgotten();
    whatIsNoRefusedHold();
    whatStillGoesOn();
    due.end();
  }

  /** BLOCK b does just so many STEPS (281 to 304), by itself and the three behind it, and makes no entry. */
  private static void idle(HoldBench x, int b, int steps) {
    x.step(b, Due.LOOP, 5, b + 1, 0);
    x.step(b + 1, Due.LOOP, 5, b + 2, 0);
    for (int i = 0; i < 11; i++) x.step(b + 2, Due.SET, 5, 5, 0);
    int rest = steps - 281;
    int own = Math.min(rest, 10);
    for (int i = 0; i < own; i++) x.step(b, Due.SET, 5, 5, 0);
    if (rest > own) x.step(b, Due.CALL, 0, b + 3, 0);
    for (int i = own + 1; i < rest; i++) x.step(b + 3, Due.SET, 5, 5, 0);
  }

  /** THING 0 in PLACE 0; BLOCK 0 begins with a CALL that uses up so many STEPS, itself too. */
  private static HoldBench used(int steps) {
    HoldBench x = new HoldBench();
    x.thing(0);
    x.step(0, Due.CALL, 0, 30, 0);
    idle(x, 30, steps - 1);
    return x;
  }

  private static void run(String what, HoldBench x, int answer, int steps, int... trace) {
    due.is(what + ": run()", x.run(), answer);
    due.is(what + ": told(1)", x.told(1), steps);
    due.trace(what, x, trace);
  }

  private static void countsOfSteps() {
    due.sentence("It is SPENT when a 301st STEP would be done");
    for (int steps = 290; steps <= 300; steps++) run(steps + " STEPS", used(steps), 0, steps);
    for (int steps = 301; steps <= 305; steps++) run(steps + " STEPS", used(steps), Due.SPENT, 300);
  }

  private static void lastStepOfEachKind() {
    due.sentence("a 301st STEP: the 300th is done");
    lastStep(Due.MARK, 5, 0, 10005);
    lastStep(Due.HOLD, 0, 0, 1000, 2000);
    lastStep(Due.HOLD, 1, 12);
    lastStep(Due.LOOP, 5, 0);
    lastStep(Due.BREAK, 0, 0);
    lastStep(Due.NEXT, 0, 0);
    lastStep(Due.RETURN, 0, 0);
    lastStep(Due.THROW, 9, 9);
    lastStep(Due.TRY, 0, 0);
    lastStep(Due.BOTH, 0, 0);
    lastStep(Due.CALL, 0, 0);
    lastStep(Due.ADD, 1, 11);
    lastStep(Due.SET, 0, 0);
    lastStep(Due.NEW, 1, 0);
    lastStep(Due.DROP, 0, 0);
    lastStep(Due.SWEEP, 9, 0, 1000, 2000, 10000);
  }

  // BLOCK 1 is empty; for ADD and SET it is PLACE 0 that counts.
  private static HoldBench behind(int steps, int kind, int a) {
    HoldBench x = used(steps);
    boolean place = kind == Due.ADD || kind == Due.SET;
    due.isTrue("step", x.step(0, kind, a, place ? 0 : 1, 1) > 0);
    return x;
  }

  private static void lastStep(int kind, int a, int answer, int... trace) {
    run("kind " + kind + " as the 300th", behind(299, kind, a), answer, 300, trace);
  }

  private static void stepBeyondOfEachKind() {
    due.sentence("SPENT when a 301st STEP would be done: it is not begun");
    for (int kind = 0; kind <= 14; kind++) {
      HoldBench x = behind(300, kind, 1);
      run("kind " + kind + " as the 301st", x, Due.SPENT, 300);
      due.is("kind " + kind + ", count(0)", x.count(0), 1);
      due.is("kind " + kind + ", at(0)", x.at(0), 0);
      due.is("kind " + kind + ", at(1)", x.at(1), Due.NONE);
      due.is("kind " + kind + ", count(3)", x.count(3), 0);
      due.is("kind " + kind + ", told(2)", x.told(2), 0);
    }
  }

  private static void stepsThatAreBegun() {
    due.sentence("(each that is begun counts)");
    HoldBench x = new HoldBench();
    x.step(0, Due.TRY, 0, 1, 3);
    x.step(0, Due.LOOP, 0, 3, 0);
    x.step(0, Due.THROW, 2, 0, 0);
    x.step(1, Due.BOTH, 0, 2, 3);
    x.step(2, Due.HOLD, 0, 4, 0);
    x.step(2, Due.MARK, 1, 0, 0);
    x.step(3, Due.SET, 0, 0, 0);
    run("TRY, BOTH, HOLD of none, SET, SET, LOOP, THROW", x, 2, 7);
  }

  private static void holdAtTheEnd() {
    due.sentence("how = .. 5 SPENT");
    HoldBench x = used(299);
    x.step(0, Due.HOLD, 0, 1, 0);
    x.step(1, Due.MARK, 1, 0, 0);
    run("a HOLD whose BLOCK is not begun", x, Due.SPENT, 300, 1000, 2500);
    due.is("told(4)", x.told(4), 1);
    x = used(298);
    x.step(0, Due.HOLD, 0, 1, 0);
    x.step(0, Due.MARK, 2, 0, 0);
    x.step(1, Due.MARK, 1, 0, 0);
    run("a HOLD that comes to its end before", x, Due.SPENT, 300, 1000, 10001, 2000);
    due.is("told(4)", x.told(4), 0);
  }

  private static void loopAtTheEnd() {
    due.sentence("SPENT when a 301st STEP would be done: in a LOOP");
    HoldBench x = used(297);
    x.step(0, Due.LOOP, 2, 1, 0);
    x.step(1, Due.MARK, 1, 0, 0);
    run("two rounds to the 300th", x, 0, 300, 10001, 10001);
    x = used(298);
    x.step(0, Due.LOOP, 2, 1, 0);
    x.step(1, Due.MARK, 1, 0, 0);
    run("two rounds past the 300th", x, Due.SPENT, 300, 10001);
    x = used(298);
    x.step(0, Due.LOOP, 5, 1, 0);
    x.step(1, Due.BREAK, 0, 0, 0);
    run("BREAK as the 300th", x, 0, 300);
    x = used(298);
    x.step(0, Due.LOOP, 5, 1, 0);
    x.step(1, Due.NEXT, 0, 0, 0);
    run("NEXT as the 300th, and a round more", x, Due.SPENT, 300);
    x = used(299);
    x.step(0, Due.LOOP, 0, 1, 0);
    x.step(1, Due.MARK, 1, 0, 0);
    run("no rounds", x, 0, 300);
  }

  private static void nothingIsCaught() {
    due.sentence("then nothing is caught");
    for (int a = 0; a <= 13; a++) {
      HoldBench x = used(298);
      x.step(0, Due.TRY, a, 1, 3);
      x.step(1, Due.TRY, a, 2, 3);
      x.step(2, Due.MARK, 1, 0, 0);
      run("TRY " + a, x, Due.SPENT, 300);
    }
    HoldBench x = used(299);
    x.step(0, Due.TRY, 0, 1, 2);
    x.step(1, Due.MARK, 1, 0, 0);
    run("TRY whose second BLOCK is empty", x, Due.SPENT, 300);
    x = used(298);
    x.step(0, Due.LOOP, 3, 1, 0);
    x.step(1, Due.CALL, 0, 2, 0);
    x.step(2, Due.MARK, 1, 0, 0);
    run("in a LOOP and a CALL", x, Due.SPENT, 300);
  }

  private static void tryAtTheEnd() {
    due.sentence("7 TRY: what it THROWS is caught, and BLOCK y done (at the 300th STEP)");
    HoldBench x = used(298);
    x.step(0, Due.TRY, 0, 1, 2);
    x.step(1, Due.THROW, 4, 0, 0);
    run("caught, with nothing more to do", x, 0, 300);
    x.step(2, Due.MARK, 1, 0, 0);
    run("caught, with one STEP too many", x, Due.SPENT, 300);
    x = used(297);
    x.step(0, Due.TRY, 0, 1, 2);
    x.step(1, Due.THROW, 4, 0, 0);
    x.step(2, Due.MARK, 1, 0, 0);
    run("caught, with a 300th STEP", x, 0, 300, 10001);
  }

  private static void noSecondBlock() {
    due.sentence("and no second BLOCK of BOTH is done");
    for (int kind : new int[] {Due.MARK, Due.BREAK, Due.NEXT, Due.RETURN, Due.THROW, Due.SWEEP, Due.NEW}) {
      HoldBench x = used(298);
      x.step(0, Due.LOOP, 1, 1, 0);
      x.step(1, Due.BOTH, 0, 2, 3);
      x.step(2, Due.MARK, 1, 0, 0);
      x.step(3, kind, 1, 0, 0);
      run("BOTH with kind " + kind, x, Due.SPENT, 300);
      due.is("BOTH with kind " + kind + ", count(0)", x.count(0), 1);
    }
  }

  private static void bothAtTheEnd() {
    due.sentence("8 BOTH: if y does not come to its end, it goes as y goes, else as x did (at the 300th STEP)");
    HoldBench x = used(298);
    x.step(0, Due.BOTH, 0, 1, 2);
    x.step(1, Due.THROW, 4, 0, 0);
    run("THROW as the 300th, an empty second BLOCK", x, 4, 300);
    x.step(2, Due.MARK, 1, 0, 0);
    run("THROW as the 300th, a STEP in the second BLOCK", x, Due.SPENT, 300);
    x = used(297);
    x.step(0, Due.BOTH, 0, 1, 2);
    x.step(1, Due.THROW, 4, 0, 0);
    x.step(2, Due.MARK, 1, 0, 0);
    run("the second BLOCK has the 300th", x, 4, 300, 10001);
    x = used(299);
    x.step(0, Due.BOTH, 0, 1, 2);
    x.step(2, Due.MARK, 1, 0, 0);
    run("an empty first BLOCK, and the second has the 301st", x, Due.SPENT, 300);
  }

  private static void allHoldsAreLeft() {
    due.sentence("but all HOLDS are left");
    HoldBench x = used(294);
    x.thing(1);
    x.step(0, Due.HOLD, 0, 1, 0);
    x.step(1, Due.LOOP, 5, 2, 0);
    x.step(2, Due.HOLD, 1, 3, 0);
    x.step(3, Due.CALL, 0, 4, 0);
    x.step(4, Due.HOLD, 0, 5, 0);
    x.step(5, Due.SWEEP, 9, 0, 0);
    x.step(5, Due.MARK, 1, 0, 0);
    run("three HOLDS", x, Due.SPENT, 300, 1000, 1001, 1000, 1000, 2000, 1001, 2001, 10000, 2500, 2501, 2500);
    due.is("told(2)", x.told(2), 5);
    due.is("told(3)", x.told(3), 4);
    due.is("told(4)", x.told(4), 3);
    for (int place = 0; place < 2; place++) {
      x.clear(0);
      x.step(0, Due.ADD, 1, place, 0);
      due.is("THING " + place + " is not HELD behind it", x.run(), 11);
    }
  }

  private static void whatWasDoneStays() {
    due.sentence("PLACES, THINGS stay as a RUN left them.");
    HoldBench x = used(294);
    x.step(0, Due.HOLD, 0, 1, 0);
    x.step(1, Due.ADD, 6, 0, 0);
    x.step(1, Due.SET, 2, 0, 0);
    x.step(1, Due.NEW, 1, 0, 0);
    x.step(1, Due.NEW, 3, 0, 0);
    x.step(1, Due.DROP, 0, 0, 0);
    x.step(1, Due.DROP, 1, 0, 0);
    run("a RUN that is SPENT", x, Due.SPENT, 300, 1000, 2500);
    int[] want = {Due.NONE, 1, 0, 2, Due.NONE, Due.NONE};
    for (int place = 0; place < 6; place++) due.is("at(" + place + ")", x.at(place), want[place]);
    due.is("number(0)", x.number(0), 6);
    due.is("count(0)", x.count(0), 3);
  }

  private static void nextRunBeginsAnew() {
    due.sentence("A RUN .. is SPENT when a 301st STEP would be done: of that RUN");
    HoldBench x = used(300);
    run("a first RUN of 300", x, 0, 300);
    run("a second RUN of 300", x, 0, 300);
    x.step(0, Due.MARK, 1, 0, 0);
    run("one of 301", x, Due.SPENT, 300);
    x.clear(0);
    x.step(0, Due.MARK, 1, 0, 0);
    run("one of 1", x, 0, 1, 10001);
    due.is("count(2)", x.count(2), 4);
  }

  /** A program whose RUN has just so many refused HOLDS (at most 140), all caught, and then a MARK of 8. */
  private static void refusing(HoldBench x, int howMany) {
    for (int block = 0; block < 5; block++) x.clear(block);
    x.step(0, Due.CALL, 0, 1, 0);
    x.step(0, Due.CALL, 0, 2, 0);
    x.step(0, Due.MARK, 8, 0, 0);
    for (int i = 0; i < howMany / 12; i++) x.step(1, Due.CALL, 0, 3, 0);
    for (int i = 0; i < howMany % 12; i++) x.step(2, Due.TRY, 12, 4, 5);
    for (int i = 0; i < 12; i++) x.step(3, Due.TRY, 12, 4, 5);
    x.step(4, Due.HOLD, 0, 5, 0);
  }

  /** An object with so many refused HOLDS. */
  private static HoldBench refused(int howMany) {
    HoldBench x = new HoldBench();
    refusing(x, 120);
    for (int i = 0; i < howMany / 120; i++) due.is("run()", x.run(), 0);
    if (howMany % 120 > 0) {
      refusing(x, howMany % 120);
      due.is("run()", x.run(), 0);
    }
    due.is("count(3)", x.count(3), howMany);
    return x;
  }

  private static void refusedHolds() {
    due.sentence("FULL: 1500 HOLDS with none there were refused ever");
    due.is("run() at 1498", refused(1498).run(), 0);
    due.is("run() at 1499", refused(1499).run(), 0);
    HoldBench x = refused(1500);
    int runs = x.count(2);
    due.is("run() at 1500", x.run(), Due.FULL);
    due.is("run() at 1500 again", x.run(), Due.FULL);
    due.is("count(2)", x.count(2), runs);
    due.is("count(3)", x.count(3), 1500);
    due.is("run() at 1501", refused(1501).run(), Due.FULL);
  }

  private static void moreRefusedHoldsOfARunUnderWay() {
    due.sentence("(of those of a RUN under way there may be more)");
    HoldBench x = refused(1499);
    refusing(x, 140);
    due.is("run() at 1499", x.run(), 0);
    due.trace("it goes on to its end", x, 10008);
    due.is("count(3)", x.count(3), 1639);
    due.is("run() behind it", x.run(), Due.FULL);
    due.trace("the TRACE stays", x, 10008);
    due.is("count(3)", x.count(3), 1639);
  }

  private static void refusedHoldsThatAreNotCaught() {
    due.sentence("HOLDS with none there that were refused ever: what becomes of the 12 does not count");
    HoldBench x = refused(1498);
    x.clear(0);
    x.step(0, Due.HOLD, 0, 1, 0);
    due.is("not caught", x.run(), 12);
    due.is("count(3)", x.count(3), 1499);
    x.clear(0);
    x.step(0, Due.BOTH, 0, 4, 6);
    x.step(6, Due.RETURN, 0, 0, 0);
    due.is("a RETURN in its place", x.run(), 0);
    due.is("count(3)", x.count(3), 1500);
    due.is("run()", x.run(), Due.FULL);
  }

  private static void refusedHoldsAreNeverForgotten() {
    due.sentence("refused ever");
    HoldBench x = refused(1500);
    x.thing(0);
    for (int block = 0; block < 40; block++) x.clear(block);
    due.is("run() of nothing", x.run(), Due.FULL);
    x.step(0, Due.HOLD, 0, 1, 0);
    due.is("run() of a HOLD with a THING there", x.run(), Due.FULL);
    due.is("count(3)", x.count(3), 1500);
  }

  private static void whatIsNoRefusedHold() {
    due.sentence("3 HOLDS with none there that were refused ever");
    HoldBench x = refused(1499);
    x.clear(0);
    x.thing(1);
    x.step(0, Due.TRY, 0, 6, 5);
    x.step(0, Due.TRY, 0, 7, 5);
    x.step(0, Due.HOLD, 1, 5, 0);
    x.step(0, Due.SWEEP, 0, 0, 0);
    x.step(0, Due.THROW, 9, 0, 0);
    x.step(6, Due.ADD, 1, 0, 0);
    x.step(7, Due.ADD, 1, 1, 0);
    for (int i = 0; i < 3; i++) due.is("run()", x.run(), 9);
    due.is("count(3)", x.count(3), 1499);
  }

  private static void whatStillGoesOn() {
    due.sentence("FULL: 1500 HOLDS ..: then nothing changes (other calls go on)");
    HoldBench x = refused(1500);
    due.is("thing(0)", x.thing(0), 0);
    due.is("set(1, 0)", x.set(1, 0), 0);
    due.is("step", x.step(9, Due.MARK, 1, 0, 0), 1);
    due.is("clear", x.clear(9), 1);
    due.is("told(0)", x.told(0), 1);
    due.is("trace(0)", x.trace(0), 10008);
    due.is("number(0)", x.number(0), 0);
    due.is("run()", x.run(), Due.FULL);
  }
}
