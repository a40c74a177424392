import java.util.ArrayList;
import java.util.List;
import java.util.TreeMap;

/**
 * Many made-up runs of calls, each answered by the class and by a model that is written in another way:
 * with Java's own exceptions and finally, and without any of the class's rows.
 */
public final class ModelTest {
  private static final int OBJECTS = 4000;
  private static final int CALLS = 512;

  /** How a BLOCK is left before its end. */
  private static final class Leave extends RuntimeException {
    private static final long serialVersionUID = 1L;
    final int how;
    final int number;

    Leave(int how, int number) {
      super(null, null, false, false);
      this.how = how;
      this.number = number;
    }
  }

  private static final class Thing {
    final int name;
    int number;
    int depth;

    Thing(int name) {
      this.name = name;
    }
  }

  private static final class Model {
    final Thing[] places = new Thing[6];
    final List<Thing> things = new ArrayList<>();
    final List<List<int[]>> blocks = new ArrayList<>();
    List<Integer> trace = new ArrayList<>();
    int steps, holds, open, most, cut, runs, refused;

    Model() {
      for (int i = 0; i < 40; i++) blocks.add(new ArrayList<>());
    }

    static int name(Thing t) {
      return t == null ? Due.NONE : t.name;
    }

    static boolean place(int p) {
      return 0 <= p && p < 6;
    }

    int all() {
      int sum = 0;
      for (List<int[]> b : blocks) sum += b.size();
      return sum;
    }

    int thing(int p) {
      if (!place(p)) return Due.BAD;
      if (things.size() == 60) return Due.FULL;
      return make(p).name;
    }

    Thing make(int p) {
      Thing t = new Thing(things.size());
      things.add(t);
      places[p] = t;
      return t;
    }

    int set(int a, int b) {
      if (!place(a) || b < -1 || b > 5) return Due.BAD;
      places[a] = b < 0 ? null : places[b];
      return name(places[a]);
    }

    static boolean good(int block, int kind, int a, int x, int y) {
      if (block < 0 || block > 39 || kind < 0 || kind > 14) return false;
      boolean namesX = kind == 1 || kind == 2 || kind == 7 || kind == 8 || kind == 9;
      boolean namesY = kind == 7 || kind == 8;
      if (namesX && (x <= block || x > 39) || namesY && (y <= block || y > 39)) return false;
      if ((kind == 1 || kind >= 11 && kind <= 13) && !place(a)) return false;
      if ((kind == 10 || kind == 11) && !place(x)) return false;
      if (kind == 2) return a >= 0 && a <= 5;
      if (kind == 6) return a >= 1 && a <= 9;
      return kind != 7 || a >= 0 && a <= 13;
    }

    int step(int block, int kind, int a, int x, int y) {
      if (!good(block, kind, a, x, y)) return Due.BAD;
      if (blocks.get(block).size() == 12 || all() == 150) return Due.FULL;
      blocks.get(block).add(new int[] {kind, a, x, y});
      return blocks.get(block).size();
    }

    int clear(int block) {
      if (block < 0 || block > 39) return Due.BAD;
      int had = blocks.get(block).size();
      blocks.get(block).clear();
      return had;
    }

    int run() {
      if (refused >= 1500) return Due.FULL;
      runs++;
      trace = new ArrayList<>();
      steps = holds = open = most = cut = 0;
      try {
        block(0, 0);
        return 0;
      } catch (Leave l) {
        return l.how == 5 ? 20 : l.how == 4 ? l.number : 0;
      }
    }

    void block(int b, int loops) {
      for (int[] s : blocks.get(b)) {
        if (steps == 300) throw new Leave(5, 0);
        steps++;
        if (s[0] >= 10) small(s[0], s[1], s[2]);
        else large(s[0], s[1], s[2], s[3], loops);
      }
    }

    void large(int kind, int a, int x, int y, int loops) {
      if (kind == 0) trace.add(10000 + a);
      if (kind == 1) hold(places[a], x, loops);
      if (kind == 2) loop(a, x, loops);
      if (kind >= 3 && kind <= 5) throw new Leave(loops == 0 ? 3 : kind - 2, 0);
      if (kind == 6) throw new Leave(4, a);
      if (kind == 7) attempt(a, x, y, loops);
      if (kind == 8) both(x, y, loops);
      if (kind == 9) call(x);
    }

    void hold(Thing t, int x, int loops) {
      if (t == null) {
        refused++;
        throw new Leave(4, 12);
      }
      begin(t);
      int how = 0;
      try {
        block(x, loops);
      } catch (Leave l) {
        how = l.how;
        throw l;
      } finally {
        leave(t, how);
      }
    }

    void begin(Thing t) {
      t.depth++;
      holds++;
      most = Math.max(most, ++open);
      trace.add(1000 + t.name);
    }

    void leave(Thing t, int how) {
      t.depth--;
      open--;
      if (how > 3) cut++;
      trace.add(2000 + 100 * how + t.name);
    }

    void loop(int times, int x, int loops) {
      for (int i = 0; i < times; i++) {
        try {
          block(x, loops + 1);
        } catch (Leave l) {
          if (l.how == 1) return;
          if (l.how != 2) throw l;
        }
      }
    }

    void attempt(int a, int x, int y, int loops) {
      try {
        block(x, loops);
      } catch (Leave l) {
        if (l.how != 4 || a != 0 && a != l.number) throw l;
        block(y, loops);
      }
    }

    void both(int x, int y, int loops) {
      try {
        block(x, loops);
      } catch (Leave l) {
        if (l.how != 5) block(y, loops);
        throw l;
      }
      block(y, loops);
    }

    void call(int x) {
      try {
        block(x, 0);
      } catch (Leave l) {
        if (l.how != 3) throw l;
      }
    }

    void small(int kind, int a, int x) {
      if (kind == 10) {
        if (places[x] == null) throw new Leave(4, 12);
        if (places[x].depth == 0) throw new Leave(4, 11);
        places[x].number += a;
      }
      if (kind == 11) places[a] = places[x];
      if (kind == 12) {
        if (things.size() == 60) throw new Leave(4, 13);
        make(a);
      }
      if (kind == 13) places[a] = null;
      if (kind == 14) sweep(a);
    }

    void sweep(int a) {
      int sum = 0;
      for (Thing t : places) {
        if (t == null) continue;
        begin(t);
        leave(t, 0);
        if (t.number == a) continue;
        sum += t.number;
        if (t.number < 0) break;
      }
      trace.add(10000 + sum);
    }

    int trace(int i) {
      return i < 0 || i >= trace.size() || i >= 250 ? Due.NONE : trace.get(i);
    }

    int told(int what) {
      if (what < 0 || what > 4) return Due.BAD;
      return new int[] {trace.size(), steps, holds, most, cut}[what];
    }

    int at(int p) {
      return place(p) ? name(places[p]) : Due.BAD;
    }

    int number(int t) {
      return t < 0 || t >= things.size() ? 0 : things.get(t).number;
    }

    int count(int what) {
      if (what < 0 || what > 3) return Due.BAD;
      return new int[] {things.size(), all(), runs, refused}[what];
    }
  }

  // The same numbers in each run of this test, so that what it finds can be found again.
  private static long state = 20261116L;

  private static int below(int n) {
    state = state * 6364136223846793005L + 1442695040888963407L;
    return (int) ((state >>> 33) % n);
  }

  /** least to most, now and then one beyond. */
  private static int around(int least, int most) {
    int dice = below(40);
    return dice == 0 ? least - 1 : dice == 1 ? most + 1 : least + below(most - least + 1);
  }

  private static final Due due = new Due();
  private static final TreeMap<Integer, Integer> answers = new TreeMap<>();
  private static final TreeMap<Integer, Integer> ways = new TreeMap<>();

  public static void main(String[] args) {
    for (int i = 0; i < OBJECTS; i++) object(i);
    System.out.println("run() answered " + answers);
    System.out.println("HOLDS were left " + ways);
    for (int answer : new int[] {-3, 0, 1, 9, 11, 12, 13, 20}) {
      due.isTrue("run() answered " + answer + " often", answers.getOrDefault(answer, 0) >= 50);
    }
    for (int how = 0; how <= 5; how++) {
      due.isTrue("HOLDS were left " + how + " often", ways.getOrDefault(how, 0) >= 500);
    }
    due.end();
  }

  // Kinds to choose from: all alike; many rounds (RUNS that are SPENT); many HOLDS with none there
  // (there the first BLOCKS are left as they began, so that what is thrown is caught).
  private static final int[][] KINDS = {
    {0, 1, 1, 1, 2, 2, 3, 4, 5, 6, 7, 7, 8, 8, 9, 9, 10, 10, 11, 12, 13, 14},
    {0, 0, 1, 1, 1, 2, 2, 2, 2, 2, 3, 4, 6, 7, 8, 9, 10, 11, 12, 14},
    {1, 1, 1, 2, 2, 2, 7, 7, 7, 7, 8, 9, 0, 13},
  };

  private static void object(int name) {
    HoldBench x = new HoldBench();
    Model m = new Model();
    int[] kinds = KINDS[name % KINDS.length];
    int blocks = 3 + below(name % 5 == 0 ? 34 : 8);
    int first = below(4) * 20;
    int things = name % KINDS.length == 2 ? 0 : 4;
    int least = name % KINDS.length == 2 ? 3 : 0;
    int begun = begin(x, m, name % KINDS.length);
    for (int i = begun; i < CALLS; i++) {
      int dice = i < first ? 30 + below(50) : below(100);
      if (dice < things) thing(x, m);
      else if (dice < 2 * things) set(x, m);
      else if (dice < 2 * things + 2) clear(x, m, least, least + blocks);
      else if (dice < 60) step(x, m, least, least + blocks, kinds[below(kinds.length)]);
      else if (dice < 72) run(x, m);
      else look(x, m);
    }
  }

  /** A few first calls, without which a RUN of made-up STEPS seldom goes far: how many. */
  private static int begin(HoldBench x, Model m, int sort) {
    if (sort == 0) return 0;
    int[][] steps = {{0, 2, 5, 1}, {1, 2, 5, 2}, {2, sort == 1 ? 1 : 7, 0, 3}, {2, 7, 0, 3}, {3, 1, 0, 4}};
    for (int[] s : steps) due.is("step", x.step(s[0], s[1], s[2], s[3], 39), m.step(s[0], s[1], s[2], s[3], 39));
    int things = sort == 1 ? 6 : 0;
    for (int place = 0; place < things; place++) due.is("thing", x.thing(place), m.thing(place));
    return steps.length + things;
  }

  private static void thing(HoldBench x, Model m) {
    int p = around(0, 5);
    due.is("thing(" + p + ")", x.thing(p), m.thing(p));
  }

  private static void set(HoldBench x, Model m) {
    int a = around(0, 5);
    int b = around(-1, 5);
    due.is("set(" + a + ", " + b + ")", x.set(a, b), m.set(a, b));
  }

  private static void clear(HoldBench x, Model m, int least, int blocks) {
    int b = around(least, below(6) == 0 ? 39 : blocks - 1);
    due.is("clear(" + b + ")", x.clear(b), m.clear(b));
  }

  private static void step(HoldBench x, Model m, int least, int blocks, int usual) {
    int block = around(least, blocks - 1);
    int kind = below(30) == 0 ? around(0, 14) : usual;
    int a = kind == 6 ? around(1, 9) : kind == 7 ? around(0, below(2) * 13) : kind == 10 ? amount() : around(0, 5);
    boolean place = kind == 10 || kind == 11;
    int bx = place ? around(0, 5) : later(block, blocks);
    int by = later(block, blocks);
    due.is("step(" + block + ", " + kind + ", " + a + ", " + bx + ", " + by + ")",
        x.step(block, kind, a, bx, by), m.step(block, kind, a, bx, by));
  }

  private static int amount() {
    return below(20) == 0 ? Integer.MAX_VALUE - below(3) : below(9) - 3;
  }

  private static int later(int block, int blocks) {
    return block >= blocks - 1 ? around(0, 40) : around(block + 1, Math.min(39, below(2) == 0 ? block + 2 : blocks));
  }

  private static void run(HoldBench x, Model m) {
    int want = m.run();
    due.is("run()", x.run(), want);
    answers.merge(want, 1, Integer::sum);
    if (want != Due.FULL) {
      for (int e : m.trace) if (e >= 2000 && e < 2600) ways.merge((e - 2000) / 100, 1, Integer::sum);
    }
  }

  private static void look(HoldBench x, Model m) {
    int kind = below(5);
    int i = kind == 0 ? around(0, Math.min(250, m.trace.size() + 1)) : kind == 1 ? around(0, 4)
        : kind == 2 ? around(0, 5) : kind == 3 ? around(0, 60) : around(0, 3);
    String of = "(" + i + ")";
    if (kind == 0) due.is("trace" + of, x.trace(i), m.trace(i));
    if (kind == 1) due.is("told" + of, x.told(i), m.told(i));
    if (kind == 2) due.is("at" + of, x.at(i), m.at(i));
    if (kind == 3) due.is("number" + of, x.number(i), m.number(i));
    if (kind == 4) due.is("count" + of, x.count(i), m.count(i));
  }
}
