/** What each kind of STEP does (section "Terms", promise 6). */
public final class KindsTest {
  private static final Due due = new Due();

  public static void main(String[] args) {
    holds();
    holdsOfWhatIsHeld();
    holdsOfWhatIsPutAway();
    loops();
    breaks();
    nexts();
    returns();
    breaksWithoutALoop();
    loopsOutsideACall();
    loopsAroundTryAndBoth();
    tries();
    triesOfTheMachinesNumbers();
    both();
    bothKeepsWhatIsThrown();
    bothInALoop();
    howHoldsAreLeft();
    adds();
    setsNewsDrops();
    sweeps();
    sweepsThatEnd();
    sweepsThatWrap();
    fortyBlocksDeep();
    due.end();
  }

  /** A BLOCK of one MARK that bears the BLOCK's own number. */
  private static void mark(HoldBench x, int block) {
    x.step(block, Due.MARK, block, 0, 0);
  }

  private static void run(String what, HoldBench x, int answer, int... trace) {
    due.is(what + ": run()", x.run(), answer);
    due.trace(what, x, trace);
  }

  private static void holds() {
    HoldBench x = new HoldBench();
    x.thing(4);
    x.thing(5);
    x.step(0, Due.HOLD, 5, 1, 0);
    mark(x, 0);
    mark(x, 1);
    run("HOLD", x, 0, 1001, 10001, 2001, 10000);
    x.set(5, Due.NONE);
    run("HOLD with none there", x, 12);
    due.is("told(2)", x.told(2), 0);
    due.is("told(4)", x.told(4), 0);
    due.is("count(3)", x.count(3), 1);
  }

  private static void holdsOfWhatIsHeld() {
    HoldBench x = new HoldBench();
    x.thing(0);
    x.set(1, 0);
    x.step(0, Due.HOLD, 0, 1, 0);
    x.step(0, Due.ADD, 1, 0, 0);
    x.step(1, Due.HOLD, 1, 2, 0);
    x.step(1, Due.ADD, 10, 0, 0);
    x.step(2, Due.ADD, 100, 1, 0);
    run("a THING that is HELD twice", x, 11, 1000, 1000, 2000, 2000);
    due.is("number(0)", x.number(0), 110);
    due.is("told(3)", x.told(3), 2);
  }

  private static void holdsOfWhatIsPutAway() {
    HoldBench x = new HoldBench();
    x.thing(0);
    x.thing(1);
    x.set(2, 0);
    x.step(0, Due.HOLD, 0, 1, 0);
    x.step(0, Due.HOLD, 0, 3, 0);
    x.step(1, Due.SET, 0, 1, 0);
    x.step(1, Due.ADD, 5, 2, 0);
    x.step(1, Due.TRY, 11, 2, 3);
    x.step(2, Due.ADD, 7, 0, 0);
    mark(x, 3);
    run("a PLACE that gets another THING", x, 0, 1000, 10003, 2000, 1001, 10003, 2001);
    due.is("number(0)", x.number(0), 5);
    due.is("number(1)", x.number(1), 0);
    x.clear(1);
    x.step(1, Due.DROP, 0, 0, 0);
    run("a PLACE that gets none", x, 12, 1001, 2001);
    due.is("count(3)", x.count(3), 1);
  }

  private static void loops() {
    for (int times = 0; times <= 5; times++) {
      HoldBench x = new HoldBench();
      x.step(0, Due.LOOP, times, 1, 0);
      mark(x, 1);
      due.is("LOOP " + times, x.run(), 0);
      due.is("LOOP " + times + ": told(0)", x.told(0), times);
      due.is("LOOP " + times + ": told(1)", x.told(1), times + 1);
    }
  }

  private static void breaks() {
    HoldBench x = new HoldBench();
    x.step(0, Due.LOOP, 2, 1, 0);
    mark(x, 0);
    mark(x, 1);
    x.step(1, Due.LOOP, 5, 2, 0);
    x.step(1, Due.MARK, 11, 0, 0);
    mark(x, 2);
    x.step(2, Due.BREAK, 0, 0, 0);
    x.step(2, Due.MARK, 12, 0, 0);
    run("BREAK leaves the innermost LOOP", x, 0, 10001, 10002, 10011, 10001, 10002, 10011, 10000);
  }

  private static void nexts() {
    HoldBench x = new HoldBench();
    x.step(0, Due.LOOP, 2, 1, 0);
    mark(x, 0);
    mark(x, 1);
    x.step(1, Due.LOOP, 2, 2, 0);
    x.step(1, Due.NEXT, 0, 0, 0);
    x.step(1, Due.MARK, 11, 0, 0);
    mark(x, 2);
    x.step(2, Due.NEXT, 0, 0, 0);
    x.step(2, Due.MARK, 12, 0, 0);
    run("NEXT", x, 0, 10001, 10002, 10002, 10001, 10002, 10002, 10000);
  }

  private static void returns() {
    HoldBench x = new HoldBench();
    x.step(0, Due.CALL, 0, 1, 0);
    mark(x, 0);
    x.step(0, Due.LOOP, 5, 4, 0);
    x.step(0, Due.MARK, 10, 0, 0);
    x.step(1, Due.CALL, 0, 2, 0);
    mark(x, 1);
    x.step(2, Due.LOOP, 5, 3, 0);
    mark(x, 2);
    mark(x, 3);
    x.step(3, Due.RETURN, 0, 0, 0);
    mark(x, 4);
    x.step(4, Due.RETURN, 0, 0, 0);
    run("RETURN leaves the innermost CALL, or the run", x, 0, 10003, 10001, 10000, 10004);
  }

  private static void breaksWithoutALoop() {
    for (int kind : new int[] {Due.BREAK, Due.NEXT}) {
      HoldBench x = new HoldBench();
      x.thing(0);
      x.step(0, Due.HOLD, 0, 1, 0);
      mark(x, 0);
      x.step(1, kind, 0, 0, 0);
      mark(x, 1);
      run("kind " + kind + " without a LOOP", x, 0, 1000, 2300);
      x.clear(0);
      x.step(0, Due.LOOP, 1, 2, 0);
      x.step(0, Due.HOLD, 0, 1, 0);
      mark(x, 0);
      run("kind " + kind + " behind a LOOP", x, 0, 1000, 2300);
    }
  }

  private static void loopsOutsideACall() {
    for (int kind : new int[] {Due.BREAK, Due.NEXT}) {
      HoldBench x = new HoldBench();
      x.thing(0);
      x.step(0, Due.LOOP, 2, 1, 0);
      x.step(1, Due.CALL, 0, 2, 0);
      mark(x, 1);
      x.step(2, Due.HOLD, 0, 3, 0);
      mark(x, 2);
      x.step(3, kind, 0, 0, 0);
      run("kind " + kind + " in a CALL in a LOOP", x, 0, 1000, 2300, 10001, 1000, 2300, 10001);
      x.clear(1);
      x.step(1, Due.CALL, 0, 4, 0);
      x.step(1, Due.HOLD, 0, 3, 0);
      mark(x, 1);
      if (kind == Due.BREAK) {
        run("BREAK behind a CALL", x, 0, 1000, 2100);
      } else {
        run("NEXT behind a CALL", x, 0, 1000, 2200, 1000, 2200);
      }
    }
  }

  private static void loopsAroundTryAndBoth() {
    for (int kind : new int[] {Due.TRY, Due.BOTH}) {
      for (int leave : new int[] {Due.BREAK, Due.NEXT}) {
        aroundFirst(kind, leave);
        aroundSecond(kind, leave);
      }
    }
  }

  private static void aroundFirst(int kind, int leave) {
    HoldBench x = new HoldBench();
    x.thing(0);
    x.step(1, kind, 0, 2, 6);
    mark(x, 1);
    x.step(2, Due.HOLD, 0, 3, 0);
    x.step(3, leave, 0, 0, 0);
    leftAround("kind " + leave + " in the first BLOCK of kind " + kind, x, leave);
  }

  private static void aroundSecond(int kind, int leave) {
    HoldBench x = new HoldBench();
    x.thing(0);
    x.step(1, kind, 0, 2, 3);
    mark(x, 1);
    x.step(2, Due.THROW, 1, 0, 0);
    x.step(3, Due.HOLD, 0, 4, 0);
    x.step(4, leave, 0, 0, 0);
    leftAround("kind " + leave + " in the second BLOCK of kind " + kind, x, leave);
  }

  /** BLOCK 1 is left out of a HOLD by a BREAK or a NEXT: in a LOOP, and in none. */
  private static void leftAround(String what, HoldBench x, int leave) {
    x.step(0, Due.LOOP, 2, 1, 0);
    mark(x, 0);
    if (leave == Due.BREAK) {
      run(what + " in a LOOP", x, 0, 1000, 2100, 10000);
    } else {
      run(what + " in a LOOP", x, 0, 1000, 2200, 1000, 2200, 10000);
    }
    x.clear(0);
    x.step(0, Due.CALL, 0, 1, 0);
    mark(x, 0);
    run(what + " without a LOOP", x, 0, 1000, 2300, 10000);
  }

  private static void tries() {
    for (int caught = 0; caught <= 9; caught++) {
      HoldBench x = new HoldBench();
      x.step(0, Due.TRY, caught, 1, 2);
      mark(x, 0);
      mark(x, 1);
      x.step(1, Due.THROW, 4, 0, 0);
      x.step(1, Due.MARK, 11, 0, 0);
      mark(x, 2);
      if (caught == 0 || caught == 4) {
        run("TRY " + caught, x, 0, 10001, 10002, 10000);
      } else {
        run("TRY " + caught, x, 4, 10001);
      }
    }
    HoldBench x = new HoldBench();
    x.step(0, Due.TRY, 0, 1, 2);
    mark(x, 0);
    mark(x, 1);
    x.step(2, Due.THROW, 5, 0, 0);
    run("TRY of what throws nothing", x, 0, 10001, 10000);
    x.step(1, Due.THROW, 4, 0, 0);
    run("TRY whose second BLOCK throws", x, 5, 10001);
    x.clear(1);
    x.step(1, Due.RETURN, 0, 0, 0);
    run("TRY does not catch a RETURN", x, 0);
    x.clear(1);
    x.step(1, Due.CALL, 0, 3, 0);
    x.step(3, Due.THROW, 4, 0, 0);
    x.clear(2);
    mark(x, 2);
    run("TRY around a CALL", x, 0, 10002, 10000);
  }

  private static void triesOfTheMachinesNumbers() {
    for (int caught : new int[] {0, 11, 12, 13}) {
      HoldBench x = new HoldBench();
      for (int i = 0; i < 60; i++) x.thing(0);
      x.step(0, Due.TRY, caught, 1, 9);
      x.step(1, Due.ADD, 1, 0, 0);
      mark(x, 9);
      thrown(x, caught, 11);
      x.clear(1);
      x.step(1, Due.ADD, 1, 1, 0);
      thrown(x, caught, 12);
      due.is("count(3): no HOLD was refused", x.count(3), 0);
      x.clear(1);
      x.step(1, Due.HOLD, 1, 2, 0);
      thrown(x, caught, 12);
      due.is("count(3)", x.count(3), 1);
      x.clear(1);
      x.step(1, Due.NEW, 1, 0, 0);
      thrown(x, caught, 13);
      due.is("at(1)", x.at(1), Due.NONE);
    }
  }

  private static void thrown(HoldBench x, int caught, int thrown) {
    if (caught == 0 || caught == thrown) {
      run("TRY " + caught + " of " + thrown, x, 0, 10009);
    } else {
      run("TRY " + caught + " of " + thrown, x, thrown);
    }
  }

  private static void both() {
    int[] ways = {Due.MARK, Due.RETURN, Due.THROW};
    for (int first : ways) {
      for (int second : ways) {
        HoldBench x = new HoldBench();
        x.step(0, Due.BOTH, 0, 1, 2);
        mark(x, 0);
        mark(x, 1);
        x.step(1, first, 3, 0, 0);
        mark(x, 2);
        x.step(2, second, 4, 0, 0);
        int way = second == Due.MARK ? first : second;
        int answer = way != Due.THROW ? 0 : second == Due.THROW ? 4 : 3;
        due.is("BOTH " + first + " " + second, x.run(), answer);
        int marks = 2 + (first == Due.MARK ? 1 : 0) + (second == Due.MARK ? 1 : 0) + (way == Due.MARK ? 1 : 0);
        due.is("BOTH " + first + " " + second + ": told(0)", x.told(0), marks);
      }
    }
  }

  private static void bothKeepsWhatIsThrown() {
    HoldBench x = new HoldBench();
    x.step(0, Due.BOTH, 0, 1, 2);
    x.step(1, Due.THROW, 3, 0, 0);
    x.step(2, Due.TRY, 0, 3, 4);
    x.step(3, Due.THROW, 7, 0, 0);
    mark(x, 4);
    run("BOTH whose second BLOCK throws and catches", x, 3, 10004);
    x.clear(2);
    x.step(2, Due.CALL, 0, 5, 0);
    x.step(5, Due.RETURN, 0, 0, 0);
    run("BOTH whose second BLOCK has a RETURN of its own", x, 3);
  }

  private static void bothInALoop() {
    HoldBench x = new HoldBench();
    x.step(0, Due.LOOP, 2, 1, 0);
    mark(x, 0);
    x.step(1, Due.BOTH, 0, 2, 3);
    mark(x, 1);
    x.step(2, Due.THROW, 3, 0, 0);
    mark(x, 3);
    x.step(3, Due.NEXT, 0, 0, 0);
    run("NEXT in place of a THROW", x, 0, 10003, 10003, 10000);
    x.clear(3);
    x.step(3, Due.BREAK, 0, 0, 0);
    run("BREAK in place of a THROW", x, 0, 10000);
    x.clear(2);
    x.step(2, Due.BREAK, 0, 0, 0);
    x.clear(3);
    mark(x, 3);
    run("BREAK with a second BLOCK", x, 0, 10003, 10000);
    x.clear(2);
    x.step(2, Due.NEXT, 0, 0, 0);
    run("NEXT with a second BLOCK", x, 0, 10003, 10003, 10000);
  }

  private static void howHoldsAreLeft() {
    int[] kinds = {Due.MARK, Due.BREAK, Due.NEXT, Due.RETURN, Due.THROW};
    for (int how = 0; how < kinds.length; how++) {
      HoldBench x = new HoldBench();
      x.thing(0);
      x.thing(1);
      x.step(0, Due.LOOP, 1, 1, 0);
      x.step(1, Due.HOLD, 0, 2, 0);
      x.step(2, Due.HOLD, 1, 3, 0);
      x.step(3, kinds[how], 1, 0, 0);
      due.is("how " + how, x.run(), how == 4 ? 1 : 0);
      int at = how == 0 ? 3 : 2;
      due.is("the inner HOLD, how " + how, x.trace(at), 2001 + 100 * how);
      due.is("the outer HOLD, how " + how, x.trace(at + 1), 2000 + 100 * how);
      due.is("told(4), how " + how, x.told(4), how == 4 ? 2 : 0);
    }
    HoldBench x = new HoldBench();
    x.thing(0);
    x.step(0, Due.HOLD, 0, 1, 0);
    x.step(1, Due.LOOP, 2, 2, 0);
    x.step(1, Due.CALL, 0, 3, 0);
    x.step(1, Due.TRY, 0, 4, 5);
    x.step(2, Due.BREAK, 0, 0, 0);
    x.step(3, Due.RETURN, 0, 0, 0);
    x.step(4, Due.THROW, 1, 0, 0);
    run("a HOLD around what is left inside it", x, 0, 1000, 2000);
  }

  private static void adds() {
    HoldBench x = new HoldBench();
    x.thing(0);
    x.thing(1);
    x.set(5, 0);
    x.step(0, Due.HOLD, 0, 1, 0);
    x.step(1, Due.ADD, 3, 0, 0);
    x.step(1, Due.ADD, -5, 5, 0);
    due.is("ADD", x.run(), 0);
    due.is("number(0)", x.number(0), -2);
    x.step(1, Due.ADD, 1, 1, 0);
    run("ADD to another THING than is HELD", x, 11, 1000, 2400);
    due.is("number(1)", x.number(1), 0);
    x.clear(1);
    x.step(1, Due.ADD, 1, 3, 0);
    run("ADD with none there", x, 12, 1000, 2400);
    due.is("count(3)", x.count(3), 0);
  }

  private static void setsNewsDrops() {
    HoldBench x = new HoldBench();
    x.thing(0);
    x.step(0, Due.SET, 5, 0, 0);
    x.step(0, Due.NEW, 0, 0, 0);
    x.step(0, Due.NEW, 1, 0, 0);
    x.step(0, Due.DROP, 1, 0, 0);
    x.step(0, Due.DROP, 2, 0, 0);
    due.is("SET, NEW, DROP", x.run(), 0);
    int[] want = {1, Due.NONE, Due.NONE, Due.NONE, Due.NONE, 0};
    for (int place = 0; place < 6; place++) due.is("at(" + place + ")", x.at(place), want[place]);
    due.is("count(0)", x.count(0), 3);
    x.clear(0);
    x.step(0, Due.SET, 0, 3, 0);
    due.is("SET of a PLACE with none", x.run(), 0);
    due.is("at(0)", x.at(0), Due.NONE);
    for (int i = 3; i < 59; i++) x.thing(0);
    x.step(0, Due.NEW, 4, 0, 0);
    x.step(0, Due.NEW, 5, 0, 0);
    due.is("NEW, the 61st", x.run(), 13);
    due.is("at(4)", x.at(4), 59);
    due.is("at(5) stays", x.at(5), 0);
    due.is("count(0)", x.count(0), 60);
  }

  /** THINGS with these NUMBERS, in the PLACES from 0 on; BLOCK 0 is left empty. */
  private static HoldBench numbered(int... numbers) {
    HoldBench x = new HoldBench();
    for (int place = 0; place < numbers.length; place++) {
      x.thing(place);
      x.step(0, Due.HOLD, place, place + 1, 0);
      x.step(place + 1, Due.ADD, numbers[place], place, 0);
    }
    x.run();
    x.clear(0);
    return x;
  }

  private static void sweeps() {
    HoldBench x = new HoldBench();
    x.step(0, Due.SWEEP, 0, 0, 0);
    run("SWEEP of nothing", x, 0, 10000);
    x = numbered(1, 20, 300, 20, 4000, 50000);
    x.step(0, Due.SWEEP, 20, 0, 0);
    run("SWEEP past a NUMBER", x, 0, 1000, 2000, 1001, 2001, 1002, 2002, 1003, 2003, 1004, 2004,
        1005, 2005, 64301);
    due.is("told(2)", x.told(2), 6);
    due.is("told(3)", x.told(3), 1);
    due.is("told(1)", x.told(1), 1);
    x.set(0, Due.NONE);
    x.set(3, 2);
    x.set(5, Due.NONE);
    run("SWEEP past none", x, 0, 1001, 2001, 1002, 2002, 1002, 2002, 1004, 2004, 14600);
    due.is("count(3)", x.count(3), 0);
  }

  private static void sweepsThatEnd() {
    HoldBench x = numbered(1, -20, 300);
    x.step(0, Due.SWEEP, 5, 0, 0);
    run("SWEEP to a NUMBER below 0", x, 0, 1000, 2000, 1001, 2001, 9981);
    x.clear(0);
    x.step(0, Due.SWEEP, -20, 0, 0);
    run("SWEEP past a NUMBER below 0", x, 0, 1000, 2000, 1001, 2001, 1002, 2002, 10301);
    x = numbered(7, 0, -1, 5);
    x.step(0, Due.SWEEP, 7, 0, 0);
    run("SWEEP goes on behind a 0", x, 0, 1000, 2000, 1001, 2001, 1002, 2002, 9999);
    x.set(0, 2);
    run("SWEEP that ends at once", x, 0, 1002, 2002, 9999);
  }

  private static void sweepsThatWrap() {
    HoldBench x = numbered(Integer.MAX_VALUE, 1, 1);
    x.step(0, Due.SWEEP, 0, 0, 0);
    run("SWEEP that wraps", x, 0, 1000, 2000, 1001, 2001, 1002, 2002, Integer.MIN_VALUE + 10001);
  }

  private static void fortyBlocksDeep() {
    for (int kind : new int[] {Due.HOLD, Due.LOOP, Due.TRY, Due.BOTH, Due.CALL}) {
      HoldBench x = new HoldBench();
      x.thing(1);
      for (int block = 0; block < 39; block++) x.step(block, kind, 1, block + 1, 39);
      x.clear(38);
      x.step(38, Due.CALL, 0, 39, 0);
      x.step(39, Due.SWEEP, 0, 0, 0);
      due.is("40 BLOCKS of kind " + kind, x.run(), 0);
      due.is("told(1), kind " + kind, x.told(1), kind == Due.BOTH ? 78 : 40);
      due.is("told(3), kind " + kind, x.told(3), kind == Due.HOLD ? 39 : 1);
    }
  }
}
