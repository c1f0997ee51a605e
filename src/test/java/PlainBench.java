import java.util.ArrayList;
import java.util.HashMap;
import java.util.HashSet;
import java.util.List;
import java.util.Map;
import java.util.Set;

/** The document once more, written down as plainly as can be, for ModelTests to compare with. */
final class PlainBench {
  private static final class Known {
    String test;
    boolean kept;
    int mutated;
  }

  private final int[][] question = new int[12][3];
  private final int[][] target = new int[12][2];
  private final Set<Integer> badNodes = new HashSet<>();
  private final int[][] weight = {{1, 1, 1}, {1, 1, 1}, {1, 1, 1}, {1, 1, 1}};
  private int draw = 1;
  private List<Known> archive = new ArrayList<>();
  private final List<int[]> relations = new ArrayList<>();

  PlainBench() {
    for (int[] leads : target) {
      leads[0] = -1;
      leads[1] = -1;
    }
  }

  // ---- helpers

  private static void index(boolean right) {
    if (!right) {
      throw new IndexOutOfBoundsException();
    }
  }

  private static void argument(boolean right) {
    if (!right) {
      throw new IllegalArgumentException();
    }
  }

  private static void state(boolean right) {
    if (!right) {
      throw new IllegalStateException();
    }
  }

  private static boolean in(int x, int low, int high) {
    return low <= x && x <= high;
  }

  private static String text(int test) {
    return String.format("%04d", test);
  }

  private static String put(String test, int slot, int value) {
    return test.substring(0, slot) + value + test.substring(slot + 1);
  }

  private static int digit(String test, int slot) {
    return Character.digit(test.charAt(slot), 10);
  }

  private int walk(String test, List<Integer> way) {
    int node = 0;
    while (true) {
      if (node == -1) {
        return way.get(way.size() - 1);
      }
      if (badNodes.contains(node)) {
        return 100 + node;
      }
      if (way.size() == 30) {
        return 112;
      }
      int value = digit(test, question[node][0]);
      int bound = question[node][2];
      boolean so;
      if (question[node][1] == 0) {
        so = value < bound;
      } else if (question[node][1] == 1) {
        so = value == bound;
      } else {
        so = value > bound;
      }
      way.add(2 * node + (so ? 0 : 1));
      node = target[node][so ? 0 : 1];
    }
  }

  private int result(String test) {
    return walk(test, new ArrayList<>());
  }

  private Set<Integer> covered(String test) {
    List<Integer> way = new ArrayList<>();
    walk(test, way);
    return new HashSet<>(way);
  }

  private boolean failureAlone(Known known) {
    int own = result(known.test);
    if (own < 100) {
      return false;
    }
    for (Known other : archive) {
      if (other != known && other.kept && result(other.test) == own) {
        return false;
      }
    }
    return true;
  }

  private int edgesAlone(Known known) {
    Set<Integer> own = covered(known.test);
    for (Known other : archive) {
      if (other != known && other.kept) {
        own.removeAll(covered(other.test));
      }
    }
    return own.size();
  }

  private boolean needed(Known known) {
    return edgesAlone(known) > 0 || failureAlone(known);
  }

  private void dropUnneeded() {
    for (Known known : archive) {
      if (known.kept && !needed(known)) {
        known.kept = false;
      }
    }
  }

  private int kept() {
    int n = 0;
    for (Known known : archive) {
      n += known.kept ? 1 : 0;
    }
    return n;
  }

  private int changed() {
    for (Known known : archive) {
      if (!known.kept && needed(known)) {
        known.kept = true;
      }
    }
    dropUnneeded();
    return kept();
  }

  private int numberOf(String test) {
    for (int i = 0; i < archive.size(); i++) {
      if (archive.get(i).test.equals(test)) {
        return i;
      }
    }
    return -1;
  }

  private void tasteText(String test) {
    if (numberOf(test) != -1) {
      return;
    }
    Known known = new Known();
    known.test = test;
    if (needed(known)) {
      known.kept = true;
      archive.add(known);
      dropUnneeded();
    }
  }

  private int below(int n) {
    draw = (draw * 421 + 1663) % 10000;
    return draw / 100 % n;
  }

  private String generated() {
    String test = "";
    for (int slot = 0; slot < 4; slot++) {
      String lot = "";
      for (int part = 0; part < 3; part++) {
        lot += "LMH".substring(part, part + 1).repeat(weight[slot][part]);
      }
      if (lot.isEmpty()) {
        test += "0";
        continue;
      }
      String values = Map.of('L', "012", 'M', "3456", 'H', "789").get(lot.charAt(below(lot.length())));
      test += values.charAt(below(values.length()));
    }
    return test;
  }

  private int energy(Known known) {
    if (!known.kept) {
      return 0;
    }
    int energy = 1 + 3 * edgesAlone(known) + (failureAlone(known) ? 5 : 0) - known.mutated;
    return energy < 0 ? 0 : energy;
  }

  private String related(int[] relation, String test) {
    int slot = relation[1];
    int other = relation[2];
    if (relation[0] == 1) {
      return put(test, slot, digit(test, slot) == 9 ? 9 : digit(test, slot) + 1);
    }
    return put(put(test, slot, digit(test, other)), other, digit(test, slot));
  }

  // ---- the face

  int ask(int node, int slot, int how, int bound) {
    index(in(node, 0, 11) && in(slot, 0, 3));
    argument(in(how, 0, 2) && in(bound, 0, 9));
    question[node] = new int[] {slot, how, bound};
    return changed();
  }

  int lead(int node, int yes, int no) {
    index(in(node, 0, 11) && in(yes, -1, 11) && in(no, -1, 11));
    target[node] = new int[] {yes, no};
    return changed();
  }

  int bad(int node, boolean isBad) {
    index(in(node, 0, 11));
    if (isBad) {
      badNodes.add(node);
    } else {
      badNodes.remove(node);
    }
    return changed();
  }

  int run(int test) {
    argument(in(test, 0, 9999));
    return result(text(test));
  }

  int edge(int test, int k) {
    argument(in(test, 0, 9999));
    List<Integer> way = new ArrayList<>();
    walk(text(test), way);
    index(in(k, 0, way.size() - 1));
    return way.get(k);
  }

  int covers(int test) {
    argument(in(test, 0, 9999));
    return covered(text(test)).size();
  }

  int weights(int slot, int low, int middle, int high) {
    index(in(slot, 0, 3));
    argument(in(low, 0, 9) && in(middle, 0, 9) && in(high, 0, 9));
    int before = weight[slot][0] + weight[slot][1] + weight[slot][2];
    weight[slot] = new int[] {low, middle, high};
    return before;
  }

  int draw(int next) {
    argument(in(next, 0, 9999));
    int before = draw;
    draw = next;
    return before;
  }

  int generate() {
    state(archive.size() < 40);
    String test = generated();
    tasteText(test);
    return Integer.parseInt(test);
  }

  int mutate() {
    state(kept() > 0 && archive.size() < 40);
    Known best = null;
    for (Known known : archive) {
      if (known.kept && (best == null || energy(known) > energy(best))) {
        best = known;
      }
    }
    int slot = below(4);
    int value = digit(best.test, slot) + 1 + below(9);
    String test = put(best.test, slot, value > 9 ? value - 10 : value);
    best.mutated++;
    tasteText(test);
    return Integer.parseInt(test);
  }

  int taste(int test) {
    argument(in(test, 0, 9999));
    state(archive.size() < 40);
    tasteText(text(test));
    return numberOf(text(test));
  }

  int ofKnown(int number, int what) {
    index(in(number, 0, archive.size() - 1));
    argument(in(what, 0, 6));
    Known known = archive.get(number);
    int[] all = {
      Integer.parseInt(known.test), known.kept ? 1 : 0, energy(known), known.mutated,
      result(known.test), covered(known.test).size(), edgesAlone(known)
    };
    return all[what];
  }

  int ofEdge(int edge, int what) {
    index(in(edge, 0, 23));
    argument(in(what, 0, 2));
    int[] all = {0, 0, -1};
    for (int i = archive.size() - 1; i >= 0; i--) {
      if (covered(archive.get(i).test).contains(edge)) {
        all[0] += archive.get(i).kept ? 1 : 0;
        all[1]++;
        all[2] = i;
      }
    }
    return all[what];
  }

  int many(int what) {
    argument(in(what, 0, 7));
    Set<Integer> ofKept = new HashSet<>();
    Set<Integer> ofAll = new HashSet<>();
    Set<Integer> failures = new HashSet<>();
    for (Known known : archive) {
      ofAll.addAll(covered(known.test));
      if (known.kept) {
        ofKept.addAll(covered(known.test));
        if (result(known.test) >= 100) {
          failures.add(result(known.test));
        }
      }
    }
    Set<Integer> nodes = new HashSet<>();
    come(0, nodes);
    int[] all = {
      archive.size(), kept(), ofKept.size(), ofAll.size(), failures.size(), relations.size(),
      draw, nodes.size()
    };
    return all[what];
  }

  private void come(int node, Set<Integer> nodes) {
    if (node != -1 && nodes.add(node)) {
      come(target[node][0], nodes);
      come(target[node][1], nodes);
    }
  }

  double meanEnergy() {
    double sum = 0;
    for (Known known : archive) {
      sum += energy(known);
    }
    return kept() == 0 ? 0 : sum / kept();
  }

  int shrink(int test) {
    argument(in(test, 0, 9999) && result(text(test)) >= 100);
    String now = text(test);
    String before;
    do {
      before = now;
      for (int slot = 0; slot < 4; slot++) {
        int value = 0;
        while (result(put(now, slot, value)) != result(now)) {
          value++;
        }
        now = put(now, slot, value);
      }
    } while (!now.equals(before));
    return Integer.parseInt(now);
  }

  int relation(int kind, int slot, int other) {
    argument(kind == 1 || kind == 0 && other != slot);
    index(in(slot, 0, 3) && (kind == 1 || in(other, 0, 3)));
    state(relations.size() < 6);
    relations.add(new int[] {kind, slot, other});
    return relations.size() - 1;
  }

  boolean breaks(int relation, int test) {
    index(in(relation, 0, relations.size() - 1));
    argument(in(test, 0, 9999));
    return result(text(test)) != result(related(relations.get(relation), text(test)));
  }

  int brokenBy(int relation) {
    index(in(relation, 0, relations.size() - 1));
    for (int i = 0; i < archive.size(); i++) {
      if (breaks(relation, Integer.parseInt(archive.get(i).test))) {
        return i;
      }
    }
    return -1;
  }

  int wouldDrop(int test) {
    argument(in(test, 0, 9999));
    List<Known> real = archive;
    archive = new ArrayList<>();
    for (Known known : real) {
      Known copy = new Known();
      copy.test = known.test;
      copy.kept = known.kept;
      archive.add(copy);
    }
    int keptBefore = kept();
    tasteText(text(test));
    int drops = archive.size() == real.size() ? -1 : keptBefore + 1 - kept();
    archive = real;
    return drops;
  }

  int otherwise(int node, int how, int bound) {
    index(in(node, 0, 11));
    argument(in(how, 0, 2) && in(bound, 0, 9));
    Map<Known, Integer> before = new HashMap<>();
    for (Known known : archive) {
      before.put(known, result(known.test));
    }
    int[] real = question[node];
    question[node] = new int[] {real[0], how, bound};
    int n = 0;
    for (Known known : archive) {
      n += result(known.test) != before.get(known) ? 1 : 0;
    }
    question[node] = real;
    return n;
  }

  int fewest() {
    if (archive.size() > 12) {
      return -1;
    }
    List<Set<Integer>> sets = new ArrayList<>();
    Set<Integer> all = new HashSet<>();
    for (Known known : archive) {
      sets.add(covered(known.test));
      all.addAll(covered(known.test));
    }
    int best = sets.size();
    for (int choice = 0; choice < 1 << sets.size(); choice++) {
      if (Integer.bitCount(choice) < best) {
        Set<Integer> some = new HashSet<>();
        for (int i = 0; i < sets.size(); i++) {
          if ((choice >> i & 1) == 1) {
            some.addAll(sets.get(i));
          }
        }
        best = some.equals(all) ? Integer.bitCount(choice) : best;
      }
    }
    return best;
  }

  int smallest(int edge, int test) {
    index(in(edge, 0, 23));
    argument(in(test, 0, 9999));
    for (int other = 0; other < 10000; other++) {
      if (other / 100 == test / 100 && covered(text(other)).contains(edge)) {
        return other;
      }
    }
    return -1;
  }

  int ahead(int k) {
    argument(in(k, 1, 50));
    int before = draw;
    Set<Integer> results = new HashSet<>();
    for (int i = 0; i < k; i++) {
      results.add(result(generated()));
    }
    draw = before;
    return results.size();
  }

  long digest() {
    List<Integer> all = new ArrayList<>();
    for (int what = 0; what < 8; what++) {
      all.add(many(what));
    }
    for (int known = 0; known < archive.size(); known++) {
      for (int what = 0; what < 7; what++) {
        all.add(ofKnown(known, what));
      }
    }
    for (int edge = 0; edge < 24; edge++) {
      for (int what = 0; what < 3; what++) {
        all.add(ofEdge(edge, what));
      }
    }
    for (int relation = 0; relation < relations.size(); relation++) {
      all.add(brokenBy(relation));
    }
    all.add(fewest());
    all.add(ahead(5));
    for (int test = 0; test < 10; test++) {
      all.add(run(test));
      all.add(covers(test));
      all.add(wouldDrop(test));
    }
    long d = 5740;
    for (int v : all) {
      d = d * 31 + v;
    }
    return d;
  }
}
