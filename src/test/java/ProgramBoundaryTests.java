/**
 * The boundary cases of the promises 1 to 7: a new object, and the program. What is refused stands
 * in RefusalTests.
 */
public final class ProgramBoundaryTests {
  private static final String INDEX = "throws.IndexOutOfBoundsException";
  private static final String STATE = "throws.IllegalStateException";
  private static final Check check = new Check("ProgramBoundaryTests");

  public static void main(String[] args) {
    nodesAtFirst();
    nothingAtFirst();
    weightsAtFirst();
    askAllowed();
    askOfEachNode();
    askAtBounds();
    askReturnsKept();
    leadAllowed();
    leadOfEachNode();
    leadReturnsKept();
    badAllowed();
    badReturnsKept();
    wakeByNumbers();
    wakeBeforeAnyIsOld();
    changesWithForty();
    runAtOnce();
    runInARow();
    runInARing();
    runInSmallerRings();
    runToEachEdge();
    edgeFirstAndLast();
    coversLeastAndMost();
    check.end();
  }

  // ---- promise 1

  private static void nodesAtFirst() {
    for (int node = 0; node < 12; node++) {
      int n = node;
      String told = "Promise 1: NODE " + node + " at first ";
      TestkitchenBench x = new TestkitchenBench();
      if (node > 0) {
        x.lead(0, node, node);
      }
      check.due(told + "is not so for 0, is not BAD, and leads to an END", 2 * n + 1, () -> x.run(0));
      check.due(told + "is not so for 9", 2 * n + 1, () -> x.run(9999));
      x.taste(5999);
      check.due(told + "asks SLOT 0", 1, () -> x.otherwise(n, 0, 6));
      check.due(told + "asks SLOT 0 alone", 0, () -> x.otherwise(n, 2, 5));
      x.ask(node, 0, 2, 4);
      check.due(told + "leads to an END, if it is so", 2 * n, () -> x.run(5000));
    }
  }

  private static void nothingAtFirst() {
    TestkitchenBench x = new TestkitchenBench();
    int[] many = {0, 0, 0, 0, 0, 0, 1, 1};
    for (int what = 0; what < 8; what++) {
      int w = what;
      check.due("Promise 1: many " + what + " at first", many[what], () -> x.many(w));
    }
    check.due("Promise 1: no number 0 is KNOWN", INDEX, () -> x.ofKnown(0, 0));
    check.due("Promise 1: there is no RELATION 0", INDEX, () -> x.brokenBy(0));
    check.due("Promise 1: none is KEPT", STATE, () -> x.mutate());
    check.due("Promise 1: no ENERGY", 0.0, () -> x.meanEnergy());
    for (int edge = 0; edge < 24; edge++) {
      int e = edge;
      check.due("Promise 1: KEPT ones at EDGE " + edge, 0, () -> x.ofEdge(e, 0));
      check.due("Promise 1: KNOWN ones at EDGE " + edge, 0, () -> x.ofEdge(e, 1));
      check.due("Promise 1: the first one at EDGE " + edge, -1, () -> x.ofEdge(e, 2));
    }
    for (int slot = 0; slot < 4; slot++) {
      int s = slot;
      check.due("Promise 1: WEIGHTS of SLOT " + slot, 3, () -> x.weights(s, 0, 0, 0));
    }
    TestkitchenBench y = new TestkitchenBench();
    y.taste(9);
    y.relation(1, 0, 0);
    y.draw(7);
    y.bad(0, true);
    TestkitchenBench z = new TestkitchenBench();
    check.due("Promise 1: one object has nothing of another", 0, () -> z.many(0) + z.many(5));
    check.due("Promise 1: nor its DRAW", 1, () -> z.many(6));
    check.due("Promise 1: nor its PROGRAM", 1, () -> z.run(0));
  }

  /** 1 each: of the numbers 0, 1 and 2 below the sum each makes another part. */
  private static void weightsAtFirst() {
    int[] smallest = {0, 3, 7};
    for (int slot = 0; slot < 4; slot++) {
      for (int part = 0; part < 3; part++) {
        TestkitchenBench x = Benches.onlyWeightsOf(slot);
        x.draw(Draws.with(3, part, part == 1 ? 4 : 3, 0));
        int due = Benches.only(slot, smallest[part], 0);
        check.due("Promise 1: the part " + part + " of SLOT " + slot, due, () -> x.generate());
      }
    }
  }

  // ---- promises 2 to 4

  private static void askAllowed() {
    TestkitchenBench x = new TestkitchenBench();
    for (int node : new int[] {0, 11}) {
      for (int slot : new int[] {0, 3}) {
        for (int how : new int[] {0, 2}) {
          for (int bound : new int[] {0, 9}) {
            String told = "Promise 2: ask " + node + " " + slot + " " + how + " " + bound;
            check.due(told, 0, () -> x.ask(node, slot, how, bound));
          }
        }
      }
    }
  }

  private static void askOfEachNode() {
    for (int node = 0; node < 12; node++) {
      int n = node;
      TestkitchenBench x = new TestkitchenBench();
      if (node > 0) {
        x.lead(0, node, node);
      }
      x.ask(node, 2, 1, 6);
      check.due("Promise 2: NODE " + node + " asks, and it is so", 2 * n, () -> x.run(60));
      check.due("Promise 2: NODE " + node + " asks, and it is not", 2 * n + 1, () -> x.run(6606));
      x.ask((node + 1) % 12, 0, 0, 9);
      x.ask((node + 11) % 12, 0, 0, 9);
      check.due("Promise 2: no other NODE's question is changed", 2 * n, () -> x.run(60));
    }
  }

  /** Each SLOT, each VALUE, and the smallest, the largest and some other BOUNDS. */
  private static void askAtBounds() {
    for (int slot = 0; slot < 4; slot++) {
      int s = slot;
      TestkitchenBench smaller = new TestkitchenBench();
      TestkitchenBench same = new TestkitchenBench();
      TestkitchenBench greater = new TestkitchenBench();
      for (int bound : new int[] {0, 1, 5, 8, 9}) {
        for (int value = 0; value < 10; value++) {
          int test = Benches.only(slot, value, bound);
          int edgeSmaller = value < bound ? 0 : 1;
          int edgeSame = value == bound ? 0 : 1;
          int edgeGreater = value > bound ? 0 : 1;
          String told = "Promise 2: SLOT " + slot + ", " + value + " against " + bound;
          check.due(told + ", smaller", edgeSmaller, () -> asked(smaller, s, 0, bound, test));
          check.due(told + ", the same", edgeSame, () -> asked(same, s, 1, bound, test));
          check.due(told + ", greater", edgeGreater, () -> asked(greater, s, 2, bound, test));
        }
      }
    }
  }

  private static int asked(TestkitchenBench x, int slot, int how, int bound, int test) {
    x.ask(0, slot, how, bound);
    return x.run(test);
  }

  private static void askReturnsKept() {
    TestkitchenBench x = Benches.withThreeKnown();
    check.due("Promise 2: a NODE that none comes to", 2, () -> x.ask(11, 3, 2, 9));
    check.due("Promise 2: all go one way at the first NODE", 2, () -> x.ask(0, 0, 0, 0));
    check.due("Promise 2: all go one way at both, one stays", 1, () -> x.ask(1, 1, 0, 0));
    check.due("Promise 2: the last one stays", "0 0 1", () -> Benches.kept(x));
    check.due("Promise 2: 0 wakes, and 2 stays", 2, () -> x.ask(1, 1, 0, 5));
    check.due("Promise 2: 1 is OLD, as 0 came first", "1 0 1", () -> Benches.kept(x));
  }

  private static void leadAllowed() {
    for (int to = -1; to < 12; to++) {
      int t = to;
      int endless = to == 0 ? 112 : 2 * to + 1;
      TestkitchenBench x = new TestkitchenBench();
      x.ask(0, 3, 1, 0);
      check.due("Promise 3: lead, if it is so, to " + to, 0, () -> x.lead(0, t, 9));
      check.due("Promise 3: if it is so, " + to, to < 0 ? 0 : endless, () -> x.run(0));
      check.due("Promise 3: if it is not, 9", 19, () -> x.run(1));
      TestkitchenBench y = new TestkitchenBench();
      y.ask(0, 3, 1, 0);
      check.due("Promise 3: lead, if it is not, to " + to, 0, () -> y.lead(0, 9, t));
      check.due("Promise 3: if it is not, " + to, to < 0 ? 1 : endless, () -> y.run(1));
      check.due("Promise 3: if it is so, 9", 19, () -> y.run(0));
    }
  }

  private static void leadOfEachNode() {
    for (int node = 1; node < 12; node++) {
      int n = node;
      int to = node == 11 ? 10 : 11;
      TestkitchenBench x = new TestkitchenBench();
      x.lead(0, node, node);
      x.ask(node, 3, 0, 1);
      check.due("Promise 3: lead of NODE " + node, 0, () -> x.lead(n, to, -1));
      check.due("Promise 3: NODE " + node + ", if it is so", 2 * to + 1, () -> x.run(0));
      check.due("Promise 3: NODE " + node + ", if it is not", 2 * n + 1, () -> x.run(1));
    }
  }

  private static void leadReturnsKept() {
    TestkitchenBench x = Benches.withThreeKnown();
    check.due("Promise 3: to where all were before", 2, () -> x.lead(0, 1, 1));
    check.due("Promise 3: a NODE that none comes to", 2, () -> x.lead(11, 0, 0));
    x.ask(1, 1, 2, 0);
    // 0 {0,3}, 9000 {1,5} and 900 {0,2} then.
    check.due("Promise 3: an OLD one wakes, and none is OLD", 3, () -> x.lead(0, 1, 2));
    // 0 {0}, 9000 {1} and 900 {0} then.
    check.due("Promise 3: the smaller number is OLD", 2, () -> x.lead(0, -1, -1));
    check.due("Promise 3: that is 0", "0 1 1", () -> Benches.kept(x));
    TestkitchenBench none = new TestkitchenBench();
    check.due("Promise 3: nothing is KNOWN", 0, () -> none.lead(0, -1, -1));
  }

  private static void badAllowed() {
    for (int node = 0; node < 12; node++) {
      int n = node;
      TestkitchenBench x = Benches.row();
      check.due("Promise 4: NODE " + node + " is BAD", 0, () -> x.bad(n, true));
      check.due("Promise 4: the FAILURE has its number", 100 + node, () -> x.run(0));
      check.due("Promise 4: the run ends as it comes there", node, () -> x.covers(0));
      check.due("Promise 4: NODE " + node + " is BAD no more", 0, () -> x.bad(n, false));
      check.due("Promise 4: and there is no FAILURE", 23, () -> x.run(0));
    }
    TestkitchenBench y = Benches.row();
    y.bad(7, true);
    y.bad(4, true);
    check.due("Promise 4: of two BAD NODES the first one", 104, () -> y.run(0));
    y.bad(4, false);
    check.due("Promise 4: then the other one", 107, () -> y.run(0));
  }

  private static void badReturnsKept() {
    TestkitchenBench x = Benches.withThreeKnown();
    check.due("Promise 4: a NODE that none comes to", 2, () -> x.bad(11, true));
    check.due("Promise 4: the EDGES of a BAD NODE are not COVERED", 2, () -> x.bad(1, true));
    check.due("Promise 4: one FAILURE, no EDGE: one stays", 1, () -> x.bad(0, true));
    check.due("Promise 4: the last one", "0 0 1", () -> Benches.kept(x));
    check.due("Promise 4: it stays by its FAILURE", 6, () -> x.ofKnown(2, 2));
    check.due("Promise 4: one wakes by its EDGE", 2, () -> x.bad(0, false));
    check.due("Promise 4: that is 1", "0 1 1", () -> Benches.kept(x));
    check.due("Promise 4: the first NODE's EDGES and the second one's", 2, () -> x.bad(1, false));
    check.due("Promise 4: 0 is OLD still", "0 1 1", () -> Benches.kept(x));
  }

  /** OLD ones wake by numbers, each only if none that woke before it does; then some are OLD. */
  private static void wakeByNumbers() {
    TestkitchenBench x = new TestkitchenBench();
    for (int node = 0; node < 3; node++) {
      x.ask(node, 3, 0, node + 1);
      x.lead(node, -1, node == 2 ? -1 : node + 1);
    }
    for (int test = 0; test < 4; test++) {
      x.taste(test);
    }
    check.due("Promise 12: four ends", "1 1 1 1", () -> Benches.kept(x));
    check.due("Promise 3: 0 has an EDGE alone, 3 is the last one", 2, () -> x.lead(0, -1, -1));
    check.due("Promise 3: 1 and 2 are OLD", "1 0 0 1", () -> Benches.kept(x));
    check.due("Promise 2: all are alike", 1, () -> x.ask(0, 3, 0, 0));
    check.due("Promise 2: the last one stays", "0 0 0 1", () -> Benches.kept(x));
    check.due("Promise 2: three are alike, one wakes", 2, () -> x.ask(0, 3, 0, 3));
    check.due("Promise 2: the smallest number wakes", "1 0 0 1", () -> Benches.kept(x));
    check.due("Promise 2: 1 alone", 2, () -> x.ask(0, 3, 1, 1));
    check.due("Promise 2: 1 wakes, and 0 is OLD", "0 1 0 1", () -> Benches.kept(x));
    // 3 alone COVERS 0 then: it stays, as 1 does, that was KEPT before.
    check.due("Promise 2: both stay", 2, () -> x.ask(0, 3, 2, 2));
    check.due("Promise 2: none wakes", "0 1 0 1", () -> Benches.kept(x));
    x.bad(0, true);
    check.due("Promise 4: all have one FAILURE", "0 0 0 1", () -> Benches.kept(x));
    x.ask(0, 3, 0, 9);
    x.lead(0, 1, -1);
    x.lead(1, -1, -1);
    check.due("Promise 4: 3 stays, and 0 wakes", 2, () -> x.bad(0, false));
    check.due("Promise 4: 1 and 2 are as 0 and 3", "1 0 0 1", () -> Benches.kept(x));
    // 0 {0,3}, 1 {0,2}, 2 {0,3}, 3 {0,3}.
    check.due("Promise 2: one alone, and the one that is KEPT", 2, () -> x.ask(1, 3, 1, 1));
    check.due("Promise 2: 1 wakes, 3 stays", "0 1 0 1", () -> Benches.kept(x));
  }

  /** First all that are NEEDED wake; only then are those OLD that are not NEEDED any more. */
  private static void wakeBeforeAnyIsOld() {
    TestkitchenBench x = new TestkitchenBench();
    for (int node = 1; node < 4; node++) {
      x.ask(node, node - 1, 0, 5);
      x.lead(node, node == 3 ? -1 : node + 1, node == 3 ? -1 : node + 1);
    }
    for (int node = 4; node < 7; node++) {
      x.ask(node, 3, 1, node - 4);
      x.lead(node, -1, node == 6 ? -1 : node + 1);
    }
    x.lead(0, -1, 4);
    x.taste(90);
    x.taste(991);
    x.taste(9003);
    x.taste(9992);
    check.due("Promise 12: by SLOT 3 all four are KEPT", "1 1 1 1", () -> Benches.kept(x));
    check.due("Promise 2: 2 is as 3", 3, () -> x.ask(6, 3, 0, 0));
    check.due("Promise 2: 2 is OLD", "1 1 0 1", () -> Benches.kept(x));
    // 0 {2,4,7}, 1 {2,5,7}, 2 {3,4,6}, 3 {3,5,7} then, all with 1.
    check.due("Promise 3: one wakes, and two are OLD", 2, () -> x.lead(0, -1, 1));
    check.due("Promise 3: 2 wakes by 6; 0 is OLD, 1 NEEDED, 3 OLD", "0 1 1 0", () ->
        Benches.kept(x));
  }

  private static void changesWithForty() {
    TestkitchenBench x = Benches.withKnown(40);
    check.due("Promise 3: with 40 KNOWN", 10, () -> x.lead(11, -1, -1));
    x.ask(0, 3, 0, 0);
    check.due("Promise 3: 40 alike, one stays", 1, () -> x.lead(0, -1, -1));
    check.due("Promise 3: that is the last one", 1, () -> x.ofKnown(39, 1));
    check.due("Promise 2: with 40 KNOWN one more wakes", 2, () -> x.ask(0, 0, 1, 9));
    check.due("Promise 4: with 40 KNOWN", 1, () -> x.bad(0, true));
    check.due("Promise 4: the last one again", 1, () -> x.ofKnown(39, 1));
  }

  // ---- promises 5 to 7

  private static void runAtOnce() {
    TestkitchenBench x = new TestkitchenBench();
    check.due("Promise 5: the smallest CASE", 1, () -> x.run(0));
    check.due("Promise 5: the largest CASE", 1, () -> x.run(9999));
    check.due("Promise 7: an END behind the first EDGE", 1, () -> x.covers(0));
    x.lead(0, 0, 0);
    x.bad(0, true);
    check.due("Promise 5: BAD at 0, before any EDGE", 100, () -> x.run(0));
    check.due("Promise 5: BAD at 0 for the largest CASE, too", 100, () -> x.run(9999));
    check.due("Promise 6: it goes over no EDGE", INDEX, () -> x.edge(0, 0));
    check.due("Promise 7: it COVERS none", 0, () -> x.covers(0));
    x.bad(0, false);
    x.bad(11, true);
    x.lead(0, 11, 11);
    check.due("Promise 5: BAD behind the first EDGE", 111, () -> x.run(0));
  }

  private static void runInARow() {
    TestkitchenBench x = Benches.row();
    check.due("Promise 5: an END behind 12 EDGES", 23, () -> x.run(0));
    check.due("Promise 7: 12 EDGES", 12, () -> x.covers(0));
    check.due("Promise 6: the last of 12", 23, () -> x.edge(0, 11));
    check.due("Promise 6: there is none behind 12", INDEX, () -> x.edge(0, 12));
    check.due("Promise 6: nor behind 29", INDEX, () -> x.edge(0, 29));
    x.bad(11, true);
    check.due("Promise 5: BAD behind 11 EDGES", 111, () -> x.run(0));
    check.due("Promise 6: the last of 11", 21, () -> x.edge(0, 10));
    check.due("Promise 6: there is none behind 11", INDEX, () -> x.edge(0, 11));
  }

  private static void runInARing() {
    TestkitchenBench x = Benches.ring();
    check.due("Promise 5: neither END nor BAD, so the FAILURE 12", 112, () -> x.run(0));
    check.due("Promise 5: for the largest CASE, too", 112, () -> x.run(9999));
    check.due("Promise 7: a ring of 12", 12, () -> x.covers(0));
    for (int k = 0; k < 30; k++) {
      int behind = k;
      int due = 2 * (k % 12) + 1;
      check.due("Promise 6: the ring's EDGE behind " + k, due, () -> x.edge(0, behind));
    }
    check.due("Promise 6: 30 EDGES, and no more", INDEX, () -> x.edge(0, 30));
  }

  private static void runInSmallerRings() {
    TestkitchenBench self = new TestkitchenBench();
    self.lead(0, -1, 0);
    check.due("Promise 5: NODE 0 in a ring of its own", 112, () -> self.run(0));
    check.due("Promise 7: one EDGE, though 30 times", 1, () -> self.covers(0));
    check.due("Promise 6: it goes over it 30 times", 1, () -> self.edge(0, 29));
    check.due("Promise 6: but not 31 times", INDEX, () -> self.edge(0, 30));
    TestkitchenBench late = Benches.row();
    late.lead(11, 5, 5);
    check.due("Promise 5: a ring behind a row", 112, () -> late.run(0));
    // Five NODES, and then seven again and again.
    check.due("Promise 6: its last EDGE", 2 * (5 + (29 - 5) % 7) + 1, () -> late.edge(0, 29));
    check.due("Promise 7: all 12", 12, () -> late.covers(0));
    late.bad(5, true);
    check.due("Promise 5: BAD where the ring begins", 105, () -> late.run(0));
    late.bad(5, false);
    late.bad(11, true);
    check.due("Promise 5: BAD where the ring ends", 111, () -> late.run(0));
  }

  private static void runToEachEdge() {
    for (int edge = 0; edge < 24; edge++) {
      TestkitchenBench x = new TestkitchenBench();
      if (edge > 1) {
        x.lead(0, edge / 2, edge / 2);
      }
      x.ask(edge / 2, 0, 0, edge % 2 == 0 ? 9 : 0);
      int last = edge < 2 ? 0 : 1;
      check.due("Promise 5: the last EDGE is " + edge, edge, () -> x.run(0));
      check.due("Promise 6: the EDGE " + edge, edge, () -> x.edge(0, last));
      check.due("Promise 6: none behind EDGE " + edge, INDEX, () -> x.edge(0, last + 1));
      check.due("Promise 7: the EDGES to " + edge, last + 1, () -> x.covers(0));
    }
  }

  private static void edgeFirstAndLast() {
    TestkitchenBench x = Benches.layers();
    check.due("Promise 6: behind 0", 0, () -> x.edge(4999, 0));
    check.due("Promise 6: behind 3", 7, () -> x.edge(4999, 3));
    for (int k = 4; k < 33; k++) {
      int behind = k;
      check.due("Promise 6: none behind " + k, INDEX, () -> x.edge(4999, behind));
    }
    check.due("Promise 6: the smallest CASE", 6, () -> x.edge(0, 3));
    check.due("Promise 6: the largest CASE", 7, () -> x.edge(9999, 3));
    x.bad(3, true);
    check.due("Promise 6: the last before a BAD NODE", 5, () -> x.edge(4999, 2));
    check.due("Promise 6: none of a BAD NODE", INDEX, () -> x.edge(4999, 3));
    x.bad(0, true);
    check.due("Promise 6: a CASE without any EDGE", INDEX, () -> x.edge(4999, 0));
  }

  private static void coversLeastAndMost() {
    TestkitchenBench x = Benches.ring();
    check.due("Promise 7: the smallest CASE", 12, () -> x.covers(0));
    check.due("Promise 7: the largest CASE", 12, () -> x.covers(9999));
    x.lead(1, 0, 0);
    check.due("Promise 7: two EDGES, again and again", 2, () -> x.covers(0));
    x.bad(1, true);
    check.due("Promise 7: one, to a BAD NODE", 1, () -> x.covers(0));
    x.bad(0, true);
    check.due("Promise 7: none, as 0 is BAD", 0, () -> x.covers(0));
  }
}
