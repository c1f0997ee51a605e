import java.util.EnumMap;
import java.util.List;
import java.util.Map;
import java.util.function.Function;

/**
 * Each call that the document refuses: with the exception that is named first, and with nothing
 * changed behind it. And each call that only asks, or of which nothing comes: nothing is changed.
 */
public final class RefusalTests {
  private static final String INDEX = "throws.IndexOutOfBoundsException";
  private static final String ARGUMENT = "throws.IllegalArgumentException";
  private static final String STATE = "throws.IllegalStateException";
  private static final int MAX = Integer.MAX_VALUE;
  private static final int MIN = Integer.MIN_VALUE;
  private static final int[] NO_NODE = {-1, 12, 13, MIN, MAX};
  private static final int[] NO_TARGET = {-2, 12, 13, MIN, MAX};
  private static final int[] NO_SLOT = {-1, 4, 5, MIN, MAX};
  private static final int[] NO_HOW = {-1, 3, 4, MIN, MAX};
  private static final int[] NO_BOUND = {-1, 10, 11, MIN, MAX};
  private static final int[] NO_WEIGHT = {-1, 10, 11, MIN, MAX};
  private static final int[] NO_CASE = {-1, 10000, 10001, -9999, MIN, MAX};
  private static final int[] NO_EDGE = {-1, 24, 25, MIN, MAX};
  private static final Check check = new Check("RefusalTests");

  /** The benches on which calls are made: nothing known; some known; all that can be. */
  private enum Bench {
    NEW, RICH, FULL;

    TestkitchenBench make() {
      return this == NEW ? new TestkitchenBench() : this == RICH ? Benches.rich() : Benches.full();
    }
  }

  private static final Map<Bench, List<String>> untouched = new EnumMap<>(Bench.class);

  public static void main(String[] args) {
    for (Bench bench : Bench.values()) {
      untouched.put(bench, Probe.of(bench.make()));
    }
    benches();
    probes();
    for (Bench bench : Bench.values()) {
      program(bench);
      runs(bench);
      generating(bench);
      archive(bench);
      shrinking(bench);
      relations(bench);
      whatWouldBe(bench);
      questions(bench);
    }
    byTheState();
    nothingComes();
    check.end();
  }

  /** A probe is worth what its benches hold. */
  private static void benches() {
    TestkitchenBench x = Benches.rich();
    check.due("rich has old ones", true, () -> x.many(0) > x.many(1));
    check.due("rich has several kept ones", true, () -> x.many(1) > 3);
    check.due("rich has two failures", 2, () -> x.many(4));
    check.due("rich has some relations", 3, () -> x.many(5));
    TestkitchenBench y = Benches.full();
    check.due("full has forty known", 40, () -> y.many(0));
    check.due("full has six relations", 6, () -> y.many(5));
    check.due("two probes are the same", "nothing", () ->
        Probe.difference(Probe.of(Benches.rich()), untouched.get(Bench.RICH)));
  }

  private static void probes() {
    for (int node = 0; node < 12; node++) {
      int n = node;
      seen("another SLOT of NODE " + node, x -> x.ask(n, 3, 2, 4));
      seen("another end of NODE " + node, x -> x.lead(n, 10, 10));
      seen("NODE " + node + " otherwise BAD", x -> x.bad(n, n != 5 && n != 9));
    }
    for (int slot = 0; slot < 4; slot++) {
      int s = slot;
      seen("other weights of " + slot, x -> x.weights(s, 4, 4, 4));
    }
    seen("another draw", x -> x.draw(1852));
    seen("a case generated", x -> x.generate());
    seen("a case mutated", x -> x.mutate());
    seen("a relation more", x -> x.relation(1, 3, 0));
  }

  /** A probe that would not see a change tells nothing of a call without one. */
  private static void seen(String told, Function<TestkitchenBench, Object> call) {
    TestkitchenBench x = Benches.rich();
    call.apply(x);
    check.due("a probe sees " + told, false, () ->
        Probe.difference(Probe.of(x), untouched.get(Bench.RICH)).equals("nothing"));
  }

  private static void unchanged(Bench bench, String told, Function<TestkitchenBench, Object> call) {
    TestkitchenBench x = bench.make();
    Check.told(() -> call.apply(x));
    check.due(told + " on " + bench + " changes", "nothing",
        () -> Probe.difference(Probe.of(x), untouched.get(bench)));
  }

  private static void refused(Bench bench, String told, String due,
      Function<TestkitchenBench, Object> call) {
    TestkitchenBench x = bench.make();
    check.due(told + " on " + bench, due, () -> call.apply(x));
    unchanged(bench, told, call);
  }

  private static void program(Bench on) {
    for (int node : NO_NODE) {
      refused(on, "Promise 2: ask of NODE " + node, INDEX, x -> x.ask(node, 1, 1, 1));
      refused(on, "Promise 2: ask, no NODE " + node + " first", INDEX, x -> x.ask(node, 1, 3, 10));
      refused(on, "Promise 3: lead of NODE " + node, INDEX, x -> x.lead(node, 1, -1));
      refused(on, "Promise 4: bad NODE " + node, INDEX, x -> x.bad(node, true));
      refused(on, "Promise 4: NODE not bad " + node, INDEX, x -> x.bad(node, false));
    }
    for (int slot : NO_SLOT) {
      refused(on, "Promise 2: ask of SLOT " + slot, INDEX, x -> x.ask(0, slot, 1, 1));
      refused(on, "Promise 2: ask, no SLOT " + slot + " first", INDEX, x -> x.ask(0, slot, -1, -1));
    }
    for (int how : NO_HOW) {
      refused(on, "Promise 2: ask how " + how, ARGUMENT, x -> x.ask(0, 1, how, 1));
    }
    for (int bound : NO_BOUND) {
      refused(on, "Promise 2: ask with BOUND " + bound, ARGUMENT, x -> x.ask(0, 1, 1, bound));
    }
    for (int to : NO_TARGET) {
      refused(on, "Promise 3: lead, if so, to " + to, INDEX, x -> x.lead(0, to, 3));
      refused(on, "Promise 3: lead, if not, to " + to, INDEX, x -> x.lead(0, 3, to));
    }
  }

  private static void runs(Bench on) {
    for (int test : NO_CASE) {
      refused(on, "Promise 5: run " + test, ARGUMENT, x -> x.run(test));
      refused(on, "Promise 6: edge of " + test, ARGUMENT, x -> x.edge(test, 0));
      refused(on, "Promise 6: edge, no CASE " + test + " first", ARGUMENT, x -> x.edge(test, -1));
      refused(on, "Promise 6: edge 30, no CASE " + test + " first", ARGUMENT, x -> x.edge(test, 30));
      refused(on, "Promise 7: covers of " + test, ARGUMENT, x -> x.covers(test));
    }
    for (int k : new int[] {-1, 30, 31, MIN, MAX}) {
      refused(on, "Promise 6: edge behind " + k, INDEX, x -> x.edge(0, k));
    }
  }

  private static void generating(Bench on) {
    for (int slot : NO_SLOT) {
      refused(on, "Promise 8: weights of SLOT " + slot, INDEX, x -> x.weights(slot, 2, 2, 2));
      refused(on, "Promise 8: weights, no SLOT " + slot + " first", INDEX,
          x -> x.weights(slot, -1, 10, -1));
    }
    for (int weight : NO_WEIGHT) {
      refused(on, "Promise 8: LOW " + weight, ARGUMENT, x -> x.weights(3, weight, 9, 9));
      refused(on, "Promise 8: MIDDLE " + weight, ARGUMENT, x -> x.weights(3, 9, weight, 9));
      refused(on, "Promise 8: HIGH " + weight, ARGUMENT, x -> x.weights(3, 9, 9, weight));
    }
    for (int draw : new int[] {-1, 10000, 10001, MIN, MAX}) {
      refused(on, "Promise 9: draw " + draw, ARGUMENT, x -> x.draw(draw));
    }
  }

  private static void archive(Bench on) {
    int known = on.make().many(0);
    for (int test : NO_CASE) {
      refused(on, "Promise 12: taste " + test, ARGUMENT, x -> x.taste(test));
    }
    for (int no : new int[] {-1, known, known + 1, 40, 41, MIN, MAX}) {
      refused(on, "Promise 13: KNOWN CASE " + no, INDEX, x -> x.ofKnown(no, 0));
      refused(on, "Promise 13: KNOWN CASE " + no + " first", INDEX, x -> x.ofKnown(no, 7));
    }
    for (int what : new int[] {-1, 7, 8, MIN, MAX}) {
      if (known > 0) {
        refused(on, "Promise 13: ofKnown what " + what, ARGUMENT, x -> x.ofKnown(0, what));
      }
    }
    for (int edge : NO_EDGE) {
      refused(on, "Promise 14: EDGE " + edge, INDEX, x -> x.ofEdge(edge, 2));
      refused(on, "Promise 14: EDGE " + edge + " first", INDEX, x -> x.ofEdge(edge, 3));
    }
    for (int what : new int[] {-1, 3, 4, MIN, MAX}) {
      refused(on, "Promise 14: ofEdge what " + what, ARGUMENT, x -> x.ofEdge(0, what));
    }
    for (int what : new int[] {-1, 8, 9, MIN, MAX}) {
      refused(on, "Promise 15: many what " + what, ARGUMENT, x -> x.many(what));
    }
  }

  private static void shrinking(Bench on) {
    for (int test : NO_CASE) {
      refused(on, "Promise 17: shrink " + test, ARGUMENT, x -> x.shrink(test));
    }
    int without = on == Bench.RICH ? 9999 : 0;
    check.due("without a failure", true, () -> on.make().run(without) < 24);
    refused(on, "Promise 17: shrink without a FAILURE", ARGUMENT, x -> x.shrink(without));
  }

  private static void relations(Bench on) {
    for (int kind : new int[] {-1, 2, 3, MIN, MAX}) {
      refused(on, "Promise 18: KIND " + kind, ARGUMENT, x -> x.relation(kind, 0, 1));
      refused(on, "Promise 18: KIND " + kind + " first", ARGUMENT, x -> x.relation(kind, 4, -1));
    }
    for (int slot = 0; slot < 4; slot++) {
      int s = slot;
      refused(on, "Promise 18: SLOT " + slot + " and itself", ARGUMENT, x -> x.relation(0, s, s));
    }
    for (int slot : NO_SLOT) {
      refused(on, "Promise 18: no SLOT " + slot + " and itself", ARGUMENT,
          x -> x.relation(0, slot, slot));
      refused(on, "Promise 18: KIND 0 of SLOT " + slot, INDEX, x -> x.relation(0, slot, 1));
      refused(on, "Promise 18: KIND 0 with the other " + slot, INDEX, x -> x.relation(0, 1, slot));
      refused(on, "Promise 18: KIND 1 of SLOT " + slot, INDEX, x -> x.relation(1, slot, 1));
      refused(on, "Promise 18: KIND 1 twice of SLOT " + slot, INDEX,
          x -> x.relation(1, slot, slot));
    }
    int relations = on.make().many(5);
    for (int no : new int[] {-1, relations, relations + 1, 6, 7, MIN, MAX}) {
      refused(on, "Promise 19: breaks RELATION " + no, INDEX, x -> x.breaks(no, 0));
      refused(on, "Promise 19: breaks RELATION " + no + " first", INDEX, x -> x.breaks(no, -1));
      refused(on, "Promise 20: RELATION " + no, INDEX, x -> x.brokenBy(no));
    }
    for (int test : NO_CASE) {
      if (relations > 0) {
        refused(on, "Promise 19: breaks with " + test, ARGUMENT, x -> x.breaks(0, test));
      }
    }
  }

  private static void whatWouldBe(Bench on) {
    for (int test : NO_CASE) {
      refused(on, "Promise 21: wouldDrop by " + test, ARGUMENT, x -> x.wouldDrop(test));
      refused(on, "Promise 24: smallest like " + test, ARGUMENT, x -> x.smallest(1, test));
    }
    for (int node : NO_NODE) {
      refused(on, "Promise 22: NODE " + node, INDEX, x -> x.otherwise(node, 1, 1));
      refused(on, "Promise 22: NODE " + node + " first", INDEX, x -> x.otherwise(node, 3, 10));
    }
    for (int how : NO_HOW) {
      refused(on, "Promise 22: how " + how, ARGUMENT, x -> x.otherwise(0, how, 1));
    }
    for (int bound : NO_BOUND) {
      refused(on, "Promise 22: BOUND " + bound, ARGUMENT, x -> x.otherwise(0, 1, bound));
    }
    for (int edge : NO_EDGE) {
      refused(on, "Promise 24: EDGE " + edge, INDEX, x -> x.smallest(edge, 0));
      refused(on, "Promise 24: EDGE " + edge + " first", INDEX, x -> x.smallest(edge, -1));
    }
    for (int k : new int[] {0, -1, 51, 52, MIN, MAX}) {
      refused(on, "Promise 25: ahead " + k, ARGUMENT, x -> x.ahead(k));
    }
  }

  /** Calls that only ask: they have an answer, and change nothing. */
  private static void questions(Bench on) {
    unchanged(on, "Promise 5: run", x -> x.run(4321));
    unchanged(on, "Promise 6: edge", x -> x.edge(4321, 0));
    unchanged(on, "Promise 7: covers", x -> x.covers(4321));
    unchanged(on, "Promise 13: ofKnown", x -> x.ofKnown(0, 2));
    unchanged(on, "Promise 14: ofEdge", x -> x.ofEdge(1, 2));
    unchanged(on, "Promise 15: many", x -> x.many(7));
    unchanged(on, "Promise 16: meanEnergy", x -> x.meanEnergy());
    unchanged(on, "Promise 17: shrink", x -> x.shrink(on == Bench.RICH ? 7000 : 9999));
    unchanged(on, "Promise 19: breaks", x -> x.breaks(0, 9));
    unchanged(on, "Promise 20: brokenBy", x -> x.brokenBy(0));
    unchanged(on, "Promise 23: fewest", x -> x.fewest());
    unchanged(on, "Promise 26: digest", x -> x.digest());
    for (int test = 0; test < 10000; test += 1234) {
      int t = test;
      unchanged(on, "Promise 21: wouldDrop by " + test, x -> x.wouldDrop(t));
    }
    for (int node = 0; node < 12; node++) {
      int n = node;
      unchanged(on, "Promise 22: otherwise NODE " + node, x -> x.otherwise(n, 2, 7));
    }
    for (int edge = 0; edge < 24; edge++) {
      int e = edge;
      unchanged(on, "Promise 24: smallest for EDGE " + edge, x -> x.smallest(e, 4321));
    }
    unchanged(on, "Promise 25: ahead 1", x -> x.ahead(1));
    unchanged(on, "Promise 25: ahead 50", x -> x.ahead(50));
  }

  /** Calls that are refused by what is known, not by what is told. */
  private static void byTheState() {
    refused(Bench.NEW, "Promise 11: mutate with none KEPT", STATE, x -> x.mutate());
    refused(Bench.NEW, "Promise 13: ofKnown 0 with none KNOWN", INDEX, x -> x.ofKnown(0, 0));
    refused(Bench.NEW, "Promise 19: breaks 0 with no RELATION", INDEX, x -> x.breaks(0, 0));
    refused(Bench.NEW, "Promise 20: brokenBy 0 with no RELATION", INDEX, x -> x.brokenBy(0));
    refused(Bench.FULL, "Promise 10: generate with 40 KNOWN", STATE, x -> x.generate());
    refused(Bench.FULL, "Promise 11: mutate with 40 KNOWN", STATE, x -> x.mutate());
    refused(Bench.FULL, "Promise 12: taste a new one with 40 KNOWN", STATE, x -> x.taste(5555));
    refused(Bench.FULL, "Promise 12: taste the first one with 40 KNOWN", STATE, x -> x.taste(0));
    refused(Bench.FULL, "Promise 12: with 40 KNOWN no CASE first", ARGUMENT, x -> x.taste(10000));
    refused(Bench.FULL, "Promise 18: a seventh of KIND 0", STATE, x -> x.relation(0, 0, 3));
    refused(Bench.FULL, "Promise 18: a seventh of KIND 1", STATE, x -> x.relation(1, 0, 0));
    refused(Bench.FULL, "Promise 18: of six and no KIND the KIND first", ARGUMENT,
        x -> x.relation(2, 0, 1));
    refused(Bench.FULL, "Promise 18: of six and the same SLOT the SLOT first", ARGUMENT,
        x -> x.relation(0, 1, 1));
    refused(Bench.FULL, "Promise 18: of six and no SLOT the SLOT first", INDEX,
        x -> x.relation(1, 4, 0));
    refused(Bench.FULL, "Promise 18: of six and no other SLOT the SLOT first", INDEX,
        x -> x.relation(0, 0, 4));
  }

  /** Tastes of which nothing comes, and changes to what is so already. */
  private static void nothingComes() {
    unchanged(Bench.RICH, "Promise 12: taste a KEPT one", x -> x.taste(keptOne()));
    unchanged(Bench.RICH, "Promise 12: taste an OLD one", x -> x.taste(oldOne()));
    unchanged(Bench.RICH, "Promise 12: taste one that is not NEEDED", x -> x.taste(1111));
    check.due("Promise 12: nothing comes of 1111", -1, () -> Benches.rich().taste(1111));
    unchanged(Bench.RICH, "Promise 2: ask the same", x -> x.ask(1, 1, 0, 5));
    unchanged(Bench.RICH, "Promise 3: lead to the same", x -> x.lead(3, 4, -1));
    unchanged(Bench.RICH, "Promise 4: bad already", x -> x.bad(5, true));
    unchanged(Bench.RICH, "Promise 4: not bad already", x -> x.bad(4, false));
    unchanged(Bench.RICH, "Promise 8: the same weights", x -> x.weights(3, 1, 5, 9));
    unchanged(Bench.RICH, "Promise 9: the same draw", x -> x.draw(x.many(6)));
  }

  private static int keptOne() {
    return firstWith(1);
  }

  private static int oldOne() {
    return firstWith(0);
  }

  private static int firstWith(int kept) {
    TestkitchenBench x = Benches.rich();
    for (int known = 0; known < x.many(0); known++) {
      if (x.ofKnown(known, 1) == kept) {
        return x.ofKnown(known, 0);
      }
    }
    return -1;
  }
}
