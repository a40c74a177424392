import java.util.Arrays;

/** A bench for programs that hold things; the document DOC.md says what each call promises. */
public final class HoldBench {
    public static final int NONE = -1, BAD = -2, FULL = -3;

    private static final int PLACES = 6;
    private static final int MAX_THINGS = 60;
    private static final int BLOCKS = 40;
    private static final int BLOCK_STEPS = 12;
    private static final int ALL_STEPS = 150;
    private static final int RUN_STEPS = 300;
    private static final int TRACE_ENTRIES = 250;
    private static final int MAX_REFUSED = 1500;
    private static final int MAX_ROUNDS = 5;

    private static final int MARK = 0;
    private static final int HOLD = 1;
    private static final int LOOP = 2;
    private static final int BREAK = 3;
    private static final int NEXT = 4;
    private static final int RETURN = 5;
    private static final int THROW = 6;
    private static final int TRY = 7;
    private static final int BOTH = 8;
    private static final int CALL = 9;
    private static final int ADD = 10;
    private static final int SET = 11;
    private static final int NEW = 12;
    private static final int DROP = 13;
    private static final int SWEEP = 14;

    private static final int THROW_LARGEST = 9;
    private static final int NOT_HELD = 11;
    private static final int NONE_THERE = 12;
    private static final int NO_ROOM = 13;
    private static final int ANY = 0;

    // How a STEP or a BLOCK went. These are the TRACE's numbers for how a HOLD is left,
    // so that only what is thrown has to be turned into one.
    private static final int ENDED = 0;
    private static final int BROKEN = 1;
    private static final int WENT_ON = 2;
    private static final int RETURNED = 3;
    private static final int THROWN = 4;
    private static final int SPENT = 5;
    // The number that is thrown travels inside the outcome: kept in a field, it would be
    // lost when the second BLOCK of a BOTH throws and catches something of its own.
    private static final int THROWS = 100;

    private static final int RUN_SPENT = 20;

    private static final int ENTRY_BEGUN = 1000;
    private static final int ENTRY_LEFT = 2000;
    private static final int ENTRY_HOW = 100;
    private static final int ENTRY_MARK = 10000;

    private final Runner runner;
    private final Shelf shelf;
    private final Program program;
    private final Tally tally;
    private int runs;

    // The runner makes what it works on, so that no constructor hands out a part of what it makes.
    public HoldBench() {
        runner = new Runner();
        shelf = runner.shelf;
        program = runner.program;
        tally = runner.tally;
        runs = 0;
    }

    public int thing(int place) {
        return isPlace(place) ? shelf.makeThing(place) : BAD;
    }

    public int set(int a, int b) {
        if (!isPlace(a) || (b != NONE && !isPlace(b))) {
            return BAD;
        }
        int thing = shelf.thingIn(b);
        shelf.put(a, thing);
        return thing;
    }

    public int step(int block, int kind, int a, int x, int y) {
        return isStep(block, kind, a, x, y) ? program.append(block, kind, a, x, y) : BAD;
    }

    public int clear(int block) {
        return program.empty(block);
    }

    public int run() {
        if (runner.refused >= MAX_REFUSED) {
            return FULL;
        }
        runs++;
        tally.restart();
        int outcome = runner.doBlock(0, NONE, false);
        if (outcome == SPENT) {
            return RUN_SPENT;
        }
        return isThrown(outcome) ? outcome - THROWS : 0;
    }

    public int trace(int i) {
        return tally.entry(i);
    }

    public int told(int what) {
        switch (what) {
            case 0: return tally.entered;
            case 1: return tally.steps;
            case 2: return tally.holds;
            case 3: return tally.most;
            case 4: return tally.cutShort;
            default: return BAD;
        }
    }

    public int at(int place) {
        return isPlace(place) ? shelf.thingIn(place) : BAD;
    }

    public int number(int thing) {
        return shelf.numberOf(thing);
    }

    public int count(int what) {
        switch (what) {
            case 0: return shelf.made;
            case 1: return program.total;
            case 2: return runs;
            case 3: return runner.refused;
            default: return BAD;
        }
    }

    private static boolean isWithin(int value, int least, int most) {
        return value >= least && value <= most;
    }

    private static boolean isPlace(int place) {
        return isWithin(place, 0, PLACES - 1);
    }

    private static boolean isBlock(int block) {
        return isWithin(block, 0, BLOCKS - 1);
    }

    // BLOCKS name only greater ones, so no BLOCK can come to be inside itself.
    private static boolean isLater(int named, int own) {
        return isWithin(named, own + 1, BLOCKS - 1);
    }

    private static boolean isStep(int block, int kind, int a, int x, int y) {
        if (!isBlock(block)) {
            return false;
        }
        switch (kind) {
            case MARK:
            case BREAK:
            case NEXT:
            case RETURN:
            case SWEEP:
                return true;
            case HOLD:
                return isPlace(a) && isLater(x, block);
            case LOOP:
                return isWithin(a, 0, MAX_ROUNDS) && isLater(x, block);
            case THROW:
                return isWithin(a, 1, THROW_LARGEST);
            case TRY:
                return isWithin(a, ANY, NO_ROOM) && isLater(x, block) && isLater(y, block);
            case BOTH:
                return isLater(x, block) && isLater(y, block);
            case CALL:
                return isLater(x, block);
            case ADD:
                return isPlace(x);
            case SET:
                return isPlace(a) && isPlace(x);
            case NEW:
            case DROP:
                return isPlace(a);
            default:
                return false;
        }
    }

    private static boolean isThrown(int outcome) {
        return outcome > THROWS;
    }

    /** The PLACES, and the THINGS that there are. */
    private static final class Shelf {
        private final int[] places;
        private final int[] numbers;
        private final int[] depths;
        private int made;

        private Shelf() {
            places = new int[PLACES];
            Arrays.fill(places, NONE);
            numbers = new int[MAX_THINGS];
            depths = new int[MAX_THINGS];
            made = 0;
        }

        private boolean isThing(int thing) {
            return thing >= 0 && thing < made;
        }

        private int makeThing(int place) {
            if (made >= MAX_THINGS) {
                return FULL;
            }
            int thing = made;
            made++;
            put(place, thing);
            return thing;
        }

        private int thingIn(int place) {
            return isPlace(place) ? places[place] : NONE;
        }

        private void put(int place, int thing) {
            if (isPlace(place)) {
                places[place] = thing;
            }
        }

        private int numberOf(int thing) {
            return isThing(thing) ? numbers[thing] : 0;
        }

        private void raiseNumber(int thing, int more) {
            if (isThing(thing)) {
                numbers[thing] += more;
            }
        }

        private boolean isHeld(int thing) {
            return isThing(thing) && depths[thing] > 0;
        }

        private void deepen(int thing, int more) {
            if (isThing(thing)) {
                depths[thing] += more;
            }
        }
    }

    /** The STEPS of all BLOCKS; BLOCK b has its own slots from b * BLOCK_STEPS on. */
    private static final class Program {
        private final int[] sizes;
        private final int[] kinds;
        private final int[] as;
        private final int[] xs;
        private final int[] ys;
        private int total;

        private Program() {
            int slots = BLOCKS * BLOCK_STEPS;
            sizes = new int[BLOCKS];
            kinds = new int[slots];
            as = new int[slots];
            xs = new int[slots];
            ys = new int[slots];
            total = 0;
        }

        private int append(int block, int kind, int a, int x, int y) {
            if (!isBlock(block)) {
                return BAD;
            }
            if (total >= ALL_STEPS || sizes[block] >= BLOCK_STEPS) {
                return FULL;
            }
            int slot = block * BLOCK_STEPS + sizes[block];
            kinds[slot] = kind;
            as[slot] = a;
            xs[slot] = x;
            ys[slot] = y;
            sizes[block]++;
            total++;
            return sizes[block];
        }

        private int empty(int block) {
            if (!isBlock(block)) {
                return BAD;
            }
            int had = sizes[block];
            sizes[block] = 0;
            total -= had;
            return had;
        }
    }

    /** The TRACE of the latest RUN, and what is counted of it. */
    private static final class Tally {
        private final int[] entries;
        private int entered;
        private int steps;
        private int holds;
        private int underWay;
        private int most;
        private int cutShort;

        private Tally() {
            entries = new int[TRACE_ENTRIES];
            restart();
        }

        private void restart() {
            entered = 0;
            steps = 0;
            holds = 0;
            underWay = 0;
            most = 0;
            cutShort = 0;
        }

        private int entry(int i) {
            return isWithin(i, 0, Math.min(entered, TRACE_ENTRIES) - 1) ? entries[i] : NONE;
        }

        private void enter(int value) {
            if (entered < TRACE_ENTRIES) {
                entries[entered] = value;
            }
            entered++;
        }

        private void enterMark(int value) {
            enter(ENTRY_MARK + value);
        }

        private void enterBegun(int thing) {
            holds++;
            underWay++;
            most = Math.max(most, underWay);
            enter(ENTRY_BEGUN + thing);
        }

        private void enterLeft(int thing, int how) {
            underWay--;
            if (how == THROWN || how == SPENT) {
                cutShort++;
            }
            enter(ENTRY_LEFT + ENTRY_HOW * how + thing);
        }
    }

    /** Does BLOCKS and STEPS; each answers its outcome. */
    private static final class Runner {
        private final Shelf shelf;
        private final Program program;
        private final Tally tally;
        private int refused;

        private Runner() {
            shelf = new Shelf();
            program = new Program();
            tally = new Tally();
            refused = 0;
        }

        // 'above' is the BLOCK whose STEP names this one (NONE: the run itself). As only
        // greater BLOCKS are done inside it, no more than BLOCKS of them are ever open at once.
        private int doBlock(int block, int above, boolean inLoop) {
            if (!isBlock(block) || block <= above) {
                return ENDED;
            }
            int size = Math.min(program.sizes[block], BLOCK_STEPS);
            int outcome = ENDED;
            for (int i = 0; i < size && outcome == ENDED; i++) {
                outcome = doStep(block, block * BLOCK_STEPS + i, inLoop);
            }
            return outcome;
        }

        private int doStep(int block, int slot, boolean inLoop) {
            if (tally.steps >= RUN_STEPS) {
                return SPENT;
            }
            tally.steps++;
            int a = program.as[slot];
            int x = program.xs[slot];
            int y = program.ys[slot];
            switch (program.kinds[slot]) {
                case MARK: tally.enterMark(a); return ENDED;
                case HOLD: return doHold(a, x, block, inLoop);
                case LOOP: return doLoop(a, x, block);
                case BREAK: return inLoop ? BROKEN : RETURNED;
                case NEXT: return inLoop ? WENT_ON : RETURNED;
                case RETURN: return RETURNED;
                case THROW: return THROWS + a;
                case TRY: return doTry(a, x, y, block, inLoop);
                case BOTH: return doBoth(x, y, block, inLoop);
                case CALL: return doCall(x, block);
                case ADD: return doAdd(a, x);
                case SET: shelf.put(a, shelf.thingIn(x)); return ENDED;
                case NEW: return doNew(a);
                case DROP: shelf.put(a, NONE); return ENDED;
                case SWEEP: doSweep(a); return ENDED;
                default: return ENDED;
            }
        }

        // The PLACE may have something else by the end: the THING that was there at first is left.
        private int doHold(int place, int x, int block, boolean inLoop) {
            int thing = shelf.thingIn(place);
            if (thing == NONE) {
                refused++;
                return THROWS + NONE_THERE;
            }
            beginHold(thing);
            int outcome = doBlock(x, block, inLoop);
            leaveHold(thing, isThrown(outcome) ? THROWN : outcome);
            return outcome;
        }

        private void beginHold(int thing) {
            shelf.deepen(thing, 1);
            tally.enterBegun(thing);
        }

        private void leaveHold(int thing, int how) {
            shelf.deepen(thing, -1);
            tally.enterLeft(thing, how);
        }

        private int doLoop(int times, int x, int block) {
            int rounds = Math.min(times, MAX_ROUNDS);
            for (int round = 0; round < rounds; round++) {
                int outcome = doBlock(x, block, true);
                if (outcome == BROKEN) {
                    return ENDED;
                }
                if (outcome != ENDED && outcome != WENT_ON) {
                    return outcome;
                }
            }
            return ENDED;
        }

        private int doTry(int a, int x, int y, int block, boolean inLoop) {
            int outcome = doBlock(x, block, inLoop);
            boolean caught = isThrown(outcome) && (a == ANY || outcome == THROWS + a);
            return caught ? doBlock(y, block, inLoop) : outcome;
        }

        private int doBoth(int x, int y, int block, boolean inLoop) {
            int first = doBlock(x, block, inLoop);
            if (first == SPENT) {
                return SPENT;
            }
            int second = doBlock(y, block, inLoop);
            return second == ENDED ? first : second;
        }

        // A LOOP around the CALL can't be left from inside it.
        private int doCall(int x, int block) {
            int outcome = doBlock(x, block, false);
            return outcome == RETURNED ? ENDED : outcome;
        }

        private int doAdd(int more, int place) {
            int thing = shelf.thingIn(place);
            if (thing == NONE) {
                return THROWS + NONE_THERE;
            }
            if (!shelf.isHeld(thing)) {
                return THROWS + NOT_HELD;
            }
            shelf.raiseNumber(thing, more);
            return ENDED;
        }

        private int doNew(int place) {
            return shelf.makeThing(place) == FULL ? THROWS + NO_ROOM : ENDED;
        }

        private void doSweep(int passedOver) {
            int sum = 0;
            boolean last = false;
            for (int place = 0; place < PLACES && !last; place++) {
                int thing = shelf.thingIn(place);
                if (thing != NONE) {
                    beginHold(thing);
                    int number = shelf.numberOf(thing);
                    if (number != passedOver) {
                        sum += number;
                        last = number < 0;
                    }
                    leaveHold(thing, ENDED);
                }
            }
            tally.enterMark(sum);
        }
    }
}
