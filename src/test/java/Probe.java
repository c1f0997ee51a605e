import java.util.ArrayList;
import java.util.List;

/** All that can be seen of a bench, in some 330 calls that in the end change it. */
final class Probe {
  private static final int[] TESTS = {
    0, 1, 2, 3, 4, 5, 6, 7, 8, 9, 10, 19, 20, 29, 39, 90, 99, 100, 400, 500, 800, 900, 909, 999, 1000,
    1234, 1900, 2000, 3900, 4005, 4321, 4444, 4994, 4999, 5000, 5050, 5555, 5678, 6543, 7000, 7777,
    7947, 8000, 8008, 8765, 9000, 9009, 9090, 9100, 9876, 9900, 9990, 9999
  };

  private final TestkitchenBench bench;
  private final List<String> seen = new ArrayList<>();

  private Probe(TestkitchenBench bench) {
    this.bench = bench;
  }

  static List<String> of(TestkitchenBench bench) {
    Probe probe = new Probe(bench);
    probe.archive();
    probe.runs();
    probe.relations();
    probe.generator();
    probe.nodes();
    probe.see("digest at last", bench::digest);
    return probe.seen;
  }

  /** The first answer that differs; nothing without one. */
  static String difference(List<String> one, List<String> other) {
    for (int i = 0; i < one.size() && i < other.size(); i++) {
      if (!one.get(i).equals(other.get(i))) {
        return one.get(i) + " instead of " + other.get(i);
      }
    }
    return one.size() == other.size() ? "nothing" : "the number of answers";
  }

  private void see(String what, Check.Call call) {
    seen.add(what + " answers " + Check.told(call));
  }

  private void archive() {
    for (int what = 0; what < 8; what++) {
      int w = what;
      see("many " + what, () -> bench.many(w));
    }
    see("meanEnergy", bench::meanEnergy);
    see("fewest", bench::fewest);
    see("digest", bench::digest);
  }

  private void runs() {
    for (int test : TESTS) {
      see("run " + test, () -> bench.run(test));
    }
    for (int edge = 0; edge < 24; edge += 5) {
      int e = edge;
      see("smallest " + edge, () -> bench.smallest(e, 4321));
    }
  }

  private void relations() {
    for (int relation = 0; relation < 6; relation++) {
      int r = relation;
      see("brokenBy " + relation, () -> bench.brokenBy(r));
      for (int test : new int[] {9, 4999, 4005, 9000}) {
        see("breaks " + relation + " " + test, () -> bench.breaks(r, test));
      }
    }
    see("relation", () -> bench.relation(1, 1, 1));
  }

  private void generator() {
    see("ahead", () -> bench.ahead(50));
    for (int i = 0; i < 4; i++) {
      see("generate", bench::generate);
    }
    for (int i = 0; i < 4; i++) {
      see("mutate", bench::mutate);
    }
    see("draw", () -> bench.draw(77));
    for (int slot = 0; slot < 4; slot++) {
      int s = slot;
      see("weights " + slot, () -> bench.weights(s, 1, 2, 3));
    }
  }

  /** Node by node: whether it is bad, where it leads, what it asks. */
  private void nodes() {
    for (int node = 1; node < 12; node++) {
      int n = node;
      see("bad 0", () -> bench.bad(0, false));
      see("lead 0 to " + node, () -> bench.lead(0, n, n));
      see("run into " + node, () -> bench.run(0));
      see("bad " + node, () -> bench.bad(n, false));
      for (int test : new int[] {0, 1234, 4444, 5678, 9999}) {
        see("behind " + node + " run " + test, () -> bench.run(test));
      }
      see("edge 1 of " + node, () -> bench.edge(4321, 1));
      see("otherwise " + node, () -> bench.otherwise(n, 2, 4));
    }
  }
}
