import java.util.Arrays;

/** A kitchen of test cases for a small program. The numbered promises stand in DOC.md. */
public final class TestkitchenBench {
  private static final int NONE = -1;
  private static final int NODES = 12;
  private static final int EDGES = 24;
  private static final int SLOTS = 4;
  private static final int VALUES = 10;
  private static final int CASES = 10000;
  private static final int DRAWS = 10000;
  private static final int LONGEST_RUN = 30;
  private static final int ENDLESS = 12;
  private static final int FAILED = 100;
  private static final int MOST_WEIGHT = 9;
  private static final int MOST_KNOWN = 40;
  private static final int MOST_FOR_FEWEST = 12;
  private static final int MOST_RELATIONS = 6;
  private static final int MOST_AHEAD = 50;
  private static final int EXCHANGE = 0;
  private static final int ONE_MORE = 1;
  private static final long EDGE_BITS = 0xFFFFFFL;

  private final Program program = new Program();
  private final Trace trace = new Trace();
  private final Generator generator = new Generator();
  private final Archive archive = new Archive();
  private final Relations relations = new Relations();

  public TestkitchenBench() {
  }

  // ---- the program

  public int ask(int node, int slot, int how, int bound)
      throws IndexOutOfBoundsException, IllegalArgumentException {
    checkNode(node);
    checkSlot(slot);
    checkQuestion(how, bound);
    program.setQuestion(node, slot, how, bound);
    return keptAfterChange();
  }

  public int lead(int node, int yes, int no) throws IndexOutOfBoundsException {
    checkNode(node);
    checkTarget(yes);
    checkTarget(no);
    program.setTargets(node, yes, no);
    return keptAfterChange();
  }

  public int bad(int node, boolean isBad) throws IndexOutOfBoundsException {
    checkNode(node);
    program.setBad(node, isBad);
    return keptAfterChange();
  }

  public int run(int test) throws IllegalArgumentException {
    checkCase(test);
    return resultOf(test);
  }

  public int edge(int test, int k) throws IllegalArgumentException, IndexOutOfBoundsException {
    checkCase(test);
    program.follow(test, trace);
    if (k < 0 || k >= trace.steps || k >= LONGEST_RUN) {
      throw new IndexOutOfBoundsException("the run has no such edge");
    }
    return trace.path[k];
  }

  public int covers(int test) throws IllegalArgumentException {
    checkCase(test);
    program.follow(test, trace);
    return edgesIn(trace.finds);
  }

  // ---- generating

  public int weights(int slot, int low, int middle, int high)
      throws IndexOutOfBoundsException, IllegalArgumentException {
    checkSlot(slot);
    checkWeight(low);
    checkWeight(middle);
    checkWeight(high);
    int before = generator.weightOf(slot);
    generator.setWeights(slot, low, middle, high);
    return before;
  }

  public int draw(int draw) throws IllegalArgumentException {
    if (draw < 0 || draw >= DRAWS) {
      throw new IllegalArgumentException("draw is not 0 to 9999");
    }
    int before = generator.state;
    generator.state = draw;
    return before;
  }

  public int generate() throws IllegalStateException {
    checkRoom();
    int test = generator.nextCase();
    tasteOf(test);
    return test;
  }

  public int mutate() throws IllegalStateException {
    int parent = archive.mostEnergetic();
    if (parent == NONE) {
      throw new IllegalStateException("no case is kept");
    }
    checkRoom();
    archive.mutations[parent]++;
    int test = generator.mutantOf(archive.tests[parent]);
    tasteOf(test);
    return test;
  }

  // ---- the archive

  public int taste(int test) throws IllegalArgumentException, IllegalStateException {
    checkCase(test);
    checkRoom();
    return tasteOf(test);
  }

  public int ofKnown(int known, int what)
      throws IndexOutOfBoundsException, IllegalArgumentException {
    if (known < 0 || known >= archive.count || known >= MOST_KNOWN) {
      throw new IndexOutOfBoundsException("no such known case");
    }
    if (what < 0 || what > 6) {
      throw new IllegalArgumentException("what is not 0 to 6");
    }
    switch (what) {
      case 0:
        return archive.tests[known];
      case 1:
        return archive.isKept(known) ? 1 : 0;
      case 2:
        return archive.energyOf(known);
      case 3:
        return archive.mutations[known];
      case 4:
        return archive.results[known];
      case 5:
        return edgesIn(archive.finds[known]);
      default:
        return edgesIn(archive.foundAloneBy(known, archive.kept));
    }
  }

  public int ofEdge(int edge, int what)
      throws IndexOutOfBoundsException, IllegalArgumentException {
    checkEdge(edge);
    if (what < 0 || what > 2) {
      throw new IllegalArgumentException("what is not 0 to 2");
    }
    long coverers = archive.coverersOf(edge);
    switch (what) {
      case 0:
        return Long.bitCount(coverers & archive.kept);
      case 1:
        return Long.bitCount(coverers);
      default:
        return coverers == 0 ? NONE : Long.numberOfTrailingZeros(coverers);
    }
  }

  public int many(int what) throws IllegalArgumentException {
    if (what < 0 || what > 7) {
      throw new IllegalArgumentException("what is not 0 to 7");
    }
    switch (what) {
      case 0:
        return archive.count;
      case 1:
        return Long.bitCount(archive.kept);
      case 2:
        return edgesIn(archive.foundBy(archive.kept));
      case 3:
        return edgesIn(archive.foundBy(archive.allKnown()));
      case 4:
        return Long.bitCount(archive.foundBy(archive.kept) >>> EDGES);
      case 5:
        return relations.count;
      case 6:
        return generator.state;
      default:
        return program.reachableNodes();
    }
  }

  public double meanEnergy() {
    int number = Long.bitCount(archive.kept);
    if (number == 0) {
      return 0;
    }
    return (double) archive.wholeEnergy() / number;
  }

  // ---- shrinking and relations

  public int shrink(int test) throws IllegalArgumentException {
    checkCase(test);
    int result = resultOf(test);
    if (result < FAILED) {
      throw new IllegalArgumentException("the case has no failure");
    }
    return shrunk(test, result);
  }

  public int relation(int kind, int slot, int other)
      throws IllegalArgumentException, IndexOutOfBoundsException, IllegalStateException {
    if (kind != EXCHANGE && kind != ONE_MORE) {
      throw new IllegalArgumentException("no such kind");
    }
    if (kind == EXCHANGE && other == slot) {
      throw new IllegalArgumentException("the other slot is the same");
    }
    checkSlot(slot);
    if (kind == EXCHANGE) {
      checkSlot(other);
    }
    if (relations.count >= MOST_RELATIONS) {
      throw new IllegalStateException("there are 6 relations");
    }
    return relations.add(kind, slot, other);
  }

  public boolean breaks(int relation, int test)
      throws IndexOutOfBoundsException, IllegalArgumentException {
    checkRelation(relation);
    checkCase(test);
    return resultOf(test) != resultOf(relations.changed(relation, test));
  }

  public int brokenBy(int relation) throws IndexOutOfBoundsException {
    checkRelation(relation);
    for (int known = 0; known < archive.count && known < MOST_KNOWN; known++) {
      int changed = relations.changed(relation, archive.tests[known]);
      if (archive.results[known] != resultOf(changed)) {
        return known;
      }
    }
    return NONE;
  }

  // ---- what would be (nothing is changed)

  public int wouldDrop(int test) throws IllegalArgumentException {
    checkCase(test);
    program.follow(test, trace);
    long then = archive.keptIfTasted(test, trace);
    if (then == archive.kept) {
      return NONE;
    }
    return Long.bitCount(archive.kept & ~then);
  }

  public int otherwise(int node, int how, int bound)
      throws IndexOutOfBoundsException, IllegalArgumentException {
    checkNode(node);
    checkQuestion(how, bound);
    int slot = program.slots[node];
    int howBefore = program.hows[node];
    int boundBefore = program.bounds[node];
    program.setQuestion(node, slot, how, bound);
    int others = 0;
    for (int known = 0; known < archive.count && known < MOST_KNOWN; known++) {
      if (resultOf(archive.tests[known]) != archive.results[known]) {
        others++;
      }
    }
    program.setQuestion(node, slot, howBefore, boundBefore);
    return others;
  }

  public int fewest() {
    if (archive.count > MOST_FOR_FEWEST) {
      return NONE;
    }
    long open = archive.foundBy(archive.allKnown()) & EDGE_BITS;
    return fewestFrom(archive.finds, archive.count, 0, open, 0, archive.count);
  }

  public int smallest(int edge, int test)
      throws IndexOutOfBoundsException, IllegalArgumentException {
    checkEdge(edge);
    checkCase(test);
    int first = test - test % 100;
    for (int candidate = first; candidate < first + 100; candidate++) {
      program.follow(candidate, trace);
      if (contains(trace.finds, edge)) {
        return candidate;
      }
    }
    return NONE;
  }

  public int ahead(int k) throws IllegalArgumentException {
    if (k < 1 || k > MOST_AHEAD) {
      throw new IllegalArgumentException("k is not 1 to 50");
    }
    int before = generator.state;
    long seen = 0;
    for (int i = 0; i < k; i++) {
      seen |= bit(outcomeOf(resultOf(generator.nextCase())));
    }
    generator.state = before;
    return Long.bitCount(seen);
  }

  public long digest() {
    long d = 5740;
    for (int what = 0; what <= 7; what++) {
      d = d * 31 + many(what);
    }
    d = digestOfKnown(d);
    d = digestOfEdges(d);
    for (int relation = 0; relation < relations.count && relation < MOST_RELATIONS; relation++) {
      d = d * 31 + brokenBy(relation);
    }
    d = d * 31 + fewest();
    d = d * 31 + ahead(5);
    for (int test = 0; test <= 9; test++) {
      d = d * 31 + run(test);
      d = d * 31 + covers(test);
      d = d * 31 + wouldDrop(test);
    }
    return d;
  }

  // ---- behind the face

  private long digestOfKnown(long before) {
    long d = before;
    for (int known = 0; known < archive.count && known < MOST_KNOWN; known++) {
      for (int what = 0; what <= 6; what++) {
        d = d * 31 + ofKnown(known, what);
      }
    }
    return d;
  }

  private long digestOfEdges(long before) {
    long d = before;
    for (int edge = 0; edge < EDGES; edge++) {
      for (int what = 0; what <= 2; what++) {
        d = d * 31 + ofEdge(edge, what);
      }
    }
    return d;
  }

  private int resultOf(int test) {
    program.follow(test, trace);
    return trace.result;
  }

  private int tasteOf(int test) {
    program.follow(test, trace);
    archive.take(archive.keptIfTasted(test, trace));
    return archive.numberOf(test);
  }

  private int keptAfterChange() {
    for (int known = 0; known < archive.count && known < MOST_KNOWN; known++) {
      program.follow(archive.tests[known], trace);
      archive.note(known, trace);
    }
    archive.settle();
    return Long.bitCount(archive.kept);
  }

  private int shrunk(int test, int result) {
    int least = test;
    // Each round but the last makes the number of the case smaller.
    for (int round = 0; round < CASES; round++) {
      int before = least;
      for (int slot = 0; slot < SLOTS; slot++) {
        least = shrunkAt(slot, least, result);
      }
      if (least == before) {
        return least;
      }
    }
    return least;
  }

  private int shrunkAt(int slot, int test, int result) {
    int own = valueOf(test, slot);
    for (int value = 0; value < own; value++) {
      int candidate = withValue(test, slot, value);
      if (resultOf(candidate) == result) {
        return candidate;
      }
    }
    return test;
  }

  /**
   * How many known cases there are in the smallest cover that has `used` cases before k, and, from
   * k on, as many as the open edges ask for; `best`, if there is none smaller.
   */
  private static int fewestFrom(long[] finds, int count, int k, long open, int used, int best) {
    if (open == 0) {
      return Math.min(used, best);
    }
    if (k >= count || k >= MOST_FOR_FEWEST || used + 1 >= best) {
      return best;
    }
    int least = best;
    if ((finds[k] & open) != 0) {
      least = fewestFrom(finds, count, k + 1, open & ~finds[k], used + 1, least);
    }
    return fewestFrom(finds, count, k + 1, open, used, least);
  }

  private static void checkNode(int node) {
    if (!isNode(node)) {
      throw new IndexOutOfBoundsException("no such node");
    }
  }

  private static void checkTarget(int node) {
    if (node != NONE && !isNode(node)) {
      throw new IndexOutOfBoundsException("no such node to lead to");
    }
  }

  private static void checkEdge(int edge) {
    if (edge < 0 || edge >= EDGES) {
      throw new IndexOutOfBoundsException("no such edge");
    }
  }

  private static void checkSlot(int slot) {
    if (slot < 0 || slot >= SLOTS) {
      throw new IndexOutOfBoundsException("no such slot");
    }
  }

  private static void checkQuestion(int how, int bound) {
    if (how < 0 || how > 2) {
      throw new IllegalArgumentException("how is not 0 to 2");
    }
    if (bound < 0 || bound >= VALUES) {
      throw new IllegalArgumentException("bound is not 0 to 9");
    }
  }

  private static void checkCase(int test) {
    if (test < 0 || test >= CASES) {
      throw new IllegalArgumentException("no case");
    }
  }

  private static void checkWeight(int weight) {
    if (weight < 0 || weight > MOST_WEIGHT) {
      throw new IllegalArgumentException("a weight is not 0 to 9");
    }
  }

  private void checkRoom() {
    if (archive.count >= MOST_KNOWN) {
      throw new IllegalStateException("there are 40 known cases");
    }
  }

  private void checkRelation(int relation) {
    if (relation < 0 || relation >= relations.count || relation >= MOST_RELATIONS) {
      throw new IndexOutOfBoundsException("no such relation");
    }
  }

  private static boolean isNode(int node) {
    return node >= 0 && node < NODES;
  }

  private static int valueOf(int test, int slot) {
    switch (slot) {
      case 0:
        return test / 1000 % 10;
      case 1:
        return test / 100 % 10;
      case 2:
        return test / 10 % 10;
      default:
        return test % 10;
    }
  }

  private static int placeOf(int slot) {
    switch (slot) {
      case 0:
        return 1000;
      case 1:
        return 100;
      case 2:
        return 10;
      default:
        return 1;
    }
  }

  private static int withValue(int test, int slot, int value) {
    return test + (value - valueOf(test, slot)) * placeOf(slot);
  }

  private static long bit(int number) {
    return 1L << number;
  }

  private static boolean contains(long set, int number) {
    return (set >>> number & 1) != 0;
  }

  private static int edgesIn(long finds) {
    return Long.bitCount(finds & EDGE_BITS);
  }

  /** The number of a result among all results: the edges first, then the failures. */
  private static int outcomeOf(int result) {
    return result < FAILED ? result : result - FAILED + EDGES;
  }

  /** What one run of a case went over, and how it ended. */
  private static final class Trace {
    private final int[] path = new int[LONGEST_RUN];
    private int steps;
    private int result;
    // One set tells all that makes a case needed: bit 0 to 23 an edge, bit 24 to 36 a failure.
    private long finds;

    void begin() {
      steps = 0;
      finds = 0;
      result = NONE;
    }

    void goOver(int edge) {
      if (steps < LONGEST_RUN) {
        path[steps] = edge;
        steps++;
      }
      finds |= bit(edge);
      result = edge;
    }

    void fail(int failure) {
      result = FAILED + failure;
      finds |= bit(outcomeOf(result));
    }
  }

  /** The nodes, what they ask, and where their edges lead. */
  private static final class Program {
    private final int[] slots = new int[NODES];
    private final int[] hows = new int[NODES];
    private final int[] bounds = new int[NODES];
    private final int[] targets = new int[EDGES];
    private final boolean[] bads = new boolean[NODES];

    Program() {
      Arrays.fill(targets, NONE);
    }

    void setQuestion(int node, int slot, int how, int bound) {
      slots[node] = slot;
      hows[node] = how;
      bounds[node] = bound;
    }

    void setTargets(int node, int yes, int no) {
      targets[2 * node] = yes;
      targets[2 * node + 1] = no;
    }

    void setBad(int node, boolean isBad) {
      bads[node] = isBad;
    }

    void follow(int test, Trace trace) {
      trace.begin();
      int node = 0;
      for (int step = 0; step < LONGEST_RUN && isNode(node) && !bads[node]; step++) {
        int edge = isSo(node, test) ? 2 * node : 2 * node + 1;
        trace.goOver(edge);
        node = targets[edge];
      }
      if (isNode(node)) {
        trace.fail(bads[node] ? node : ENDLESS);
      }
    }

    private boolean isSo(int node, int test) {
      int value = valueOf(test, slots[node]);
      switch (hows[node]) {
        case 0:
          return value < bounds[node];
        case 1:
          return value == bounds[node];
        default:
          return value > bounds[node];
      }
    }

    int reachableNodes() {
      long seen = 1;
      // A round finds at least one new node, or there is none to find.
      for (int round = 0; round < NODES; round++) {
        for (int edge = 0; edge < EDGES; edge++) {
          if (contains(seen, edge / 2) && isNode(targets[edge])) {
            seen |= bit(targets[edge]);
          }
        }
      }
      return Long.bitCount(seen);
    }
  }

  /** The draw, and what is made with it. */
  private static final class Generator {
    private final int[] lows = new int[SLOTS];
    private final int[] middles = new int[SLOTS];
    private final int[] highs = new int[SLOTS];
    private int state = 1;

    Generator() {
      Arrays.fill(lows, 1);
      Arrays.fill(middles, 1);
      Arrays.fill(highs, 1);
    }

    int weightOf(int slot) {
      return lows[slot] + middles[slot] + highs[slot];
    }

    void setWeights(int slot, int low, int middle, int high) {
      lows[slot] = low;
      middles[slot] = middle;
      highs[slot] = high;
    }

    int nextCase() {
      int test = 0;
      for (int slot = 0; slot < SLOTS; slot++) {
        test = test * VALUES + nextValue(slot);
      }
      return test;
    }

    int mutantOf(int test) {
      int slot = drawnBelow(SLOTS);
      int value = valueOf(test, slot) + 1 + drawnBelow(VALUES - 1);
      return withValue(test, slot, value >= VALUES ? value - VALUES : value);
    }

    private int nextValue(int slot) {
      int sum = weightOf(slot);
      if (sum == 0) {
        return 0;
      }
      int drawn = drawnBelow(sum);
      if (drawn < lows[slot]) {
        return drawnBelow(3);
      }
      if (drawn < lows[slot] + middles[slot]) {
        return 3 + drawnBelow(4);
      }
      return 7 + drawnBelow(3);
    }

    private int drawnBelow(int n) {
      state = (state * 421 + 1663) % DRAWS;
      return n < 1 ? 0 : state / 100 % n;
    }
  }

  /** The known cases by number; a set of them is a long with a bit for each number. */
  private static final class Archive {
    // One place more than can be known: a case that is only looked at stands behind the known ones.
    private static final int PLACES = MOST_KNOWN + 1;

    private final int[] tests = new int[PLACES];
    private final int[] results = new int[PLACES];
    private final int[] mutations = new int[PLACES];
    private final long[] finds = new long[PLACES];
    private int count;
    private long kept;

    boolean isKept(int known) {
      return contains(kept, known);
    }

    long allKnown() {
      return bit(count) - 1;
    }

    int numberOf(int test) {
      for (int known = 0; known < count && known < MOST_KNOWN; known++) {
        if (tests[known] == test) {
          return known;
        }
      }
      return NONE;
    }

    void note(int place, Trace trace) {
      results[place] = trace.result;
      finds[place] = trace.finds;
    }

    long foundBy(long set) {
      long found = 0;
      for (int place = 0; place < PLACES && set >>> place != 0; place++) {
        if (contains(set, place)) {
          found |= finds[place];
        }
      }
      return found;
    }

    /** What no other one of the set finds: the case is NEEDED if there is anything of this. */
    long foundAloneBy(int place, long set) {
      return finds[place] & ~foundBy(set & ~bit(place));
    }

    long coverersOf(int edge) {
      long coverers = 0;
      for (int known = 0; known < count && known < MOST_KNOWN; known++) {
        if (contains(finds[known], edge)) {
          coverers |= bit(known);
        }
      }
      return coverers;
    }

    int energyOf(int known) {
      if (!isKept(known)) {
        return 0;
      }
      long alone = foundAloneBy(known, kept);
      int forFailure = alone >>> EDGES != 0 ? 5 : 0;
      return Math.max(0, 1 + 3 * edgesIn(alone) + forFailure - mutations[known]);
    }

    int wholeEnergy() {
      int sum = 0;
      for (int known = 0; known < count && known < MOST_KNOWN; known++) {
        sum += energyOf(known);
      }
      return sum;
    }

    int mostEnergetic() {
      int best = NONE;
      int bestEnergy = NONE;
      for (int known = 0; known < count && known < MOST_KNOWN; known++) {
        if (isKept(known)) {
          int energy = energyOf(known);
          if (energy > bestEnergy) {
            best = known;
            bestEnergy = energy;
          }
        }
      }
      return best;
    }

    /** Those kept if the case was tasted: it is among them, by the next number, if needed. */
    long keptIfTasted(int test, Trace trace) {
      if (count >= PLACES || numberOf(test) != NONE) {
        return kept;
      }
      tests[count] = test;
      note(count, trace);
      if (foundAloneBy(count, kept) == 0) {
        return kept;
      }
      return neededOf(kept | bit(count));
    }

    /** Makes known what keptIfTasted looked at, if it answered that others are kept then. */
    void take(long then) {
      if (then != kept && count < MOST_KNOWN) {
        kept = then;
        count++;
      }
    }

    void settle() {
      for (int known = 0; known < count && known < MOST_KNOWN; known++) {
        if (!isKept(known) && foundAloneBy(known, kept) != 0) {
          kept |= bit(known);
        }
      }
      kept = neededOf(kept);
    }

    private long neededOf(long set) {
      long left = set;
      for (int place = 0; place < PLACES; place++) {
        if (contains(left, place) && foundAloneBy(place, left) == 0) {
          left &= ~bit(place);
        }
      }
      return left;
    }
  }

  /** The relations, and what they make of a case. */
  private static final class Relations {
    private final int[] kinds = new int[MOST_RELATIONS];
    private final int[] slots = new int[MOST_RELATIONS];
    private final int[] others = new int[MOST_RELATIONS];
    private int count;

    int add(int kind, int slot, int other) {
      kinds[count] = kind;
      slots[count] = slot;
      others[count] = other;
      count++;
      return count - 1;
    }

    int changed(int relation, int test) {
      int slot = slots[relation];
      int value = valueOf(test, slot);
      if (kinds[relation] == ONE_MORE) {
        return withValue(test, slot, Math.min(value + 1, VALUES - 1));
      }
      int other = others[relation];
      return withValue(withValue(test, slot, valueOf(test, other)), other, value);
    }
  }
}
