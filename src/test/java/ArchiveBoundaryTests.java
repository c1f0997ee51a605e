/** The boundary cases of the promises 12 to 16: the archive. What is refused stands in RefusalTests. */
public final class ArchiveBoundaryTests {
  private static final String INDEX = "throws.IndexOutOfBoundsException";
  private static final String STATE = "throws.IllegalStateException";
  private static final Check check = new Check("ArchiveBoundaryTests");

  public static void main(String[] args) {
    tasteAllowed();
    tasteWhatIsKnown();
    tasteForAnEdge();
    tasteForAFailure();
    tasteByNumbers();
    tasteDropsSeveral();
    tasteAtTheLimit();
    ofKnownFirstAndLast();
    ofKnownOfAProgramThatChanged();
    energyDownToNothing();
    mutatedWhileOld();
    energyOfEdgesAndFailures();
    ofEdgeFirstAndLast();
    ofEdgeOfForty();
    manyOfNothing();
    manyNodes();
    manyEdgesAndFailures();
    manyAtTheLimits();
    meanOfNoneAndOne();
    meanIsNotCut();
    check.end();
  }

  // ---- promise 12

  private static void tasteAllowed() {
    TestkitchenBench x = new TestkitchenBench();
    check.due("Promise 12: the smallest CASE", 0, () -> x.taste(0));
    check.due("Promise 12: it is KNOWN", 0, () -> x.ofKnown(0, 0));
    TestkitchenBench y = new TestkitchenBench();
    check.due("Promise 12: the largest CASE", 0, () -> y.taste(9999));
    check.due("Promise 12: it is KNOWN, too", 9999, () -> y.ofKnown(0, 0));
  }

  private static void tasteWhatIsKnown() {
    TestkitchenBench x = Benches.withThreeKnown();
    check.due("Promise 12: an OLD one has its number", 0, () -> x.taste(0));
    check.due("Promise 12: and stays OLD", "0 1 1", () -> Benches.kept(x));
    check.due("Promise 12: a KEPT one has its number", 2, () -> x.taste(900));
    check.due("Promise 12: and is KNOWN once", 3, () -> x.many(0));
    check.due("Promise 12: one that is not NEEDED has none", -1, () -> x.taste(9900));
    check.due("Promise 12: and is not KNOWN", 3, () -> x.many(0));
  }

  private static void tasteForAnEdge() {
    TestkitchenBench x = new TestkitchenBench();
    x.bad(0, true);
    check.due("Promise 12: a FAILURE without any EDGE", 0, () -> x.taste(5));
    check.due("Promise 12: another one with that FAILURE", -1, () -> x.taste(6));
    x.bad(0, false);
    check.due("Promise 12: without it an EDGE that 5 COVERS, too", -1, () -> x.taste(6));
    x.ask(0, 3, 0, 6);
    check.due("Promise 12: an EDGE that no other one COVERS", 1, () -> x.taste(6));
    check.due("Promise 12: then none is left", -1, () -> x.taste(7));
    check.due("Promise 12: on neither side", -1, () -> x.taste(4));
  }

  /** All its EDGES are COVERED by others, and it alone goes on for ever. */
  private static void tasteForAFailure() {
    TestkitchenBench x = new TestkitchenBench();
    for (int node = 0; node < 3; node++) {
      x.ask(node, node, 0, 5);
    }
    x.lead(0, 1, 2);
    x.lead(1, 2, -1);
    x.lead(2, 1, -1);
    x.taste(90);
    x.taste(9900);
    // 90 {0,2,5}, 9900 {1,4,3}; 0 {0,2,4} and 9000 {1,4,2} are endless.
    check.due("Promise 7: the endless one has three EDGES", 3, () -> x.covers(0));
    check.due("Promise 15: all of them are COVERED", 6, () -> x.many(2));
    check.due("Promise 21: it is NEEDED, and none would be OLD", 0, () -> x.wouldDrop(0));
    check.due("Promise 12: a FAILURE that no other one has", 2, () -> x.taste(0));
    check.due("Promise 13: no EDGE is its own", 0, () -> x.ofKnown(2, 6));
    check.due("Promise 13: its ENERGY is by the FAILURE", 6, () -> x.ofKnown(2, 2));
    check.due("Promise 12: the others stay", "1 1 1", () -> Benches.kept(x));
    check.due("Promise 12: that FAILURE again, and no new EDGE", -1, () -> x.taste(9000));
    check.due("Promise 21: nothing would come of it", -1, () -> x.wouldDrop(9000));
    x.lead(2, -1, -1);
    check.due("Promise 3: without the FAILURE it is OLD", "1 1 0", () -> Benches.kept(x));
    check.due("Promise 3: with it again it is KEPT", 3, () -> x.lead(2, 1, -1));
  }

  private static void tasteByNumbers() {
    TestkitchenBench x = Benches.fourLayers();
    check.due("Promise 12: three are KEPT", "1 1 1", () -> Benches.kept(x));
    // None of the three is NEEDED then, until 0 is OLD: 1 and 2 are NEEDED again.
    check.due("Promise 21: one of three would be OLD", 1, () -> x.wouldDrop(9000));
    check.due("Promise 12: the fourth", 3, () -> x.taste(9000));
    check.due("Promise 12: the smallest number is OLD", "0 1 1 1", () -> Benches.kept(x));
  }

  private static void tasteDropsSeveral() {
    TestkitchenBench x = Benches.layers();
    x.lead(3, 4, -1);
    x.ask(4, 3, 0, 3);
    x.taste(990);
    x.taste(9090);
    x.taste(9900);
    x.taste(9994);
    check.due("Promise 12: four are KEPT", "1 1 1 1", () -> Benches.kept(x));
    check.due("Promise 21: two of them would be OLD", 2, () -> x.wouldDrop(9));
    check.due("Promise 21: and are not yet", 4, () -> x.many(1));
    check.due("Promise 12: the fifth", 4, () -> x.taste(9));
    check.due("Promise 12: the last of three stays", "0 0 1 1 1", () -> Benches.kept(x));
  }

  private static void tasteAtTheLimit() {
    TestkitchenBench x = Benches.withKnown(39);
    check.due("Promise 12: with 39 a KNOWN one has its number", 0, () -> x.taste(0));
    check.due("Promise 12: with 39 one that is not NEEDED has none", -1, () -> x.taste(5555));
    check.due("Promise 12: the 40th has the number 39", 39, () -> x.taste(90));
    check.due("Promise 12: 40 are KNOWN", 40, () -> x.many(0));
    check.due("Promise 12: the last one is KEPT", 1, () -> x.ofKnown(39, 1));
    check.due("Promise 12: with 40 a KEPT one is refused", STATE, () -> x.taste(90));
    check.due("Promise 12: with 40 an OLD one is refused", STATE, () -> x.taste(0));
    check.due("Promise 12: with 40 any other one is refused", STATE, () -> x.taste(5555));
  }

  // ---- promise 13

  private static void ofKnownFirstAndLast() {
    TestkitchenBench x = Benches.withThreeKnown();
    int[][] due = {{0, 0, 0, 0, 2, 2, 0}, {9000, 1, 7, 0, 2, 2, 2}, {900, 1, 7, 0, 3, 2, 2}};
    for (int known = 0; known < 3; known++) {
      for (int what = 0; what < 7; what++) {
        int k = known;
        int w = what;
        check.due("Promise 13: what " + what + " of " + known, due[k][w], () -> x.ofKnown(k, w));
      }
    }
    check.due("Promise 13: none behind the last one", INDEX, () -> x.ofKnown(3, 0));
    TestkitchenBench y = Benches.withKnown(40);
    check.due("Promise 13: the first of 40", 0, () -> y.ofKnown(0, 0));
    check.due("Promise 13: the last of 40", 90, () -> y.ofKnown(39, 0));
    check.due("Promise 13: how many EDGES it COVERS", 10, () -> y.ofKnown(39, 5));
    check.due("Promise 13: its RESULT", 18, () -> y.ofKnown(39, 4));
    check.due("Promise 13: two EDGES are its own", 2, () -> y.ofKnown(39, 6));
    check.due("Promise 13: none behind it", INDEX, () -> y.ofKnown(40, 0));
    TestkitchenBench z = new TestkitchenBench();
    check.due("Promise 13: none at all", INDEX, () -> z.ofKnown(0, 0));
    z.taste(7);
    check.due("Promise 13: the first, as it is KNOWN", 7, () -> z.ofKnown(0, 0));
  }

  private static void ofKnownOfAProgramThatChanged() {
    TestkitchenBench x = Benches.withThreeKnown();
    x.lead(1, 0, -1);
    check.due("Promise 13: the RESULT of one that is endless now", 112, () -> x.ofKnown(1, 4));
    check.due("Promise 13: the RESULT of an OLD one now", 112, () -> x.ofKnown(0, 4));
    check.due("Promise 13: the RESULT of one that ends", 3, () -> x.ofKnown(2, 4));
    x.bad(0, true);
    check.due("Promise 13: the RESULT at a BAD NODE 0", 100, () -> x.ofKnown(0, 4));
    check.due("Promise 13: no EDGE is COVERED", 0, () -> x.ofKnown(2, 5));
    check.due("Promise 13: nor one alone", 0, () -> x.ofKnown(2, 6));
  }

  private static void energyDownToNothing() {
    TestkitchenBench x = new TestkitchenBench();
    x.taste(0);
    int[] due = {4, 3, 2, 1, 0, 0, 0};
    for (int times = 0; times < due.length; times++) {
      int t = times;
      check.due("Promise 13: 1 + 3, MUTATED " + times, due[times], () -> x.ofKnown(0, 2));
      check.due("Promise 13: MUTATED " + times, t, () -> x.ofKnown(0, 3));
      x.mutate();
    }
    x.bad(0, true);
    check.due("Promise 13: 1 + 5 - 7 is 0 at the least", 0, () -> x.ofKnown(0, 2));
    x.bad(0, false);
    x.lead(0, 1, 1);
    check.due("Promise 13: 1 + 6 - 7 is 0", 0, () -> x.ofKnown(0, 2));
    x.lead(1, 2, 2);
    check.due("Promise 13: 1 + 9 - 7 is 3", 3, () -> x.ofKnown(0, 2));
  }

  private static void mutatedWhileOld() {
    TestkitchenBench x = Benches.withThreeKnown();
    x.mutate();
    check.due("Promise 13: 1 was MUTATED", "0 1 0", () -> Benches.mutated(x));
    check.due("Promise 13: so it has less ENERGY", 6, () -> x.ofKnown(1, 2));
    x.bad(0, true);
    check.due("Promise 13: 1 is OLD", "0 0 1", () -> Benches.kept(x));
    check.due("Promise 13: an OLD one was MUTATED, too", "0 1 0", () -> Benches.mutated(x));
    check.due("Promise 13: an OLD one has no ENERGY", 0, () -> x.ofKnown(1, 2));
    x.bad(0, false);
    x.ask(1, 1, 0, 0);
    x.ask(0, 0, 0, 5);
    // 0 {0,3}, 9000 {1,3} and 900 {0,3}: 9000 has 1 alone.
    check.due("Promise 13: 1 is KEPT again", 1, () -> x.ofKnown(1, 1));
    check.due("Promise 13: it has less ENERGY again", 3, () -> x.ofKnown(1, 2));
  }

  private static void energyOfEdgesAndFailures() {
    TestkitchenBench x = Benches.ring();
    x.taste(0);
    check.due("Promise 13: twelve EDGES and a FAILURE", 1 + 3 * 12 + 5, () -> x.ofKnown(0, 2));
    check.due("Promise 13: twelve EDGES, though 30 times", 12, () -> x.ofKnown(0, 5));
    check.due("Promise 13: twelve EDGES alone", 12, () -> x.ofKnown(0, 6));
    x.bad(0, true);
    check.due("Promise 13: a FAILURE, and no EDGE", 6, () -> x.ofKnown(0, 2));
    TestkitchenBench y = Benches.fourLayers();
    y.taste(9000);
    // 1 {0,3,4,7}, 2 {1,3,5,7}, 3 {1,2,4,6}; 0 {0,2,5,7} is OLD.
    int[] due = {0, 4, 4, 7};
    int[] alone = {0, 1, 1, 2};
    for (int known = 0; known < 4; known++) {
      int k = known;
      check.due("Promise 13: the ENERGY of " + known, due[known], () -> y.ofKnown(k, 2));
      check.due("Promise 13: EDGES alone of " + known, alone[known], () -> y.ofKnown(k, 6));
      check.due("Promise 13: EDGES of " + known, 4, () -> y.ofKnown(k, 5));
    }
    TestkitchenBench z = Benches.twoInARow();
    z.bad(1, true);
    z.taste(0);
    z.taste(9000);
    check.due("Promise 13: a FAILURE that two have counts for neither", 4, () -> z.ofKnown(0, 2));
    z.lead(0, 1, 2);
    z.bad(2, true);
    check.due("Promise 13: a FAILURE each counts for both", 9, () -> z.ofKnown(1, 2));
    check.due("Promise 13: for the first one, too", 9, () -> z.ofKnown(0, 2));
    z.lead(0, -1, -1);
    z.ask(0, 0, 0, 0);
    check.due("Promise 13: an OLD one has none", 0, () -> z.ofKnown(0, 2));
    z.bad(0, true);
    check.due("Promise 13: nor by a FAILURE", 0, () -> z.ofKnown(0, 2));
  }

  // ---- promise 14

  private static void ofEdgeFirstAndLast() {
    TestkitchenBench x = Benches.row();
    x.ask(11, 3, 0, 5);
    x.taste(9);
    x.taste(0);
    int[][] due = {{0, 0, -1}, {2, 2, 0}, {1, 1, 1}, {1, 1, 0}};
    int[] edges = {0, 1, 22, 23};
    for (int i = 0; i < 4; i++) {
      for (int what = 0; what < 3; what++) {
        int edge = edges[i];
        int w = what;
        check.due("Promise 14: EDGE " + edge + " " + what, due[i][w], () -> x.ofEdge(edge, w));
      }
    }
    TestkitchenBench y = Benches.withThreeKnown();
    check.due("Promise 14: those that are KEPT", 1, () -> y.ofEdge(0, 0));
    check.due("Promise 14: OLD ones are KNOWN, too", 2, () -> y.ofEdge(0, 1));
    check.due("Promise 14: the first KNOWN one is OLD", 0, () -> y.ofEdge(0, 2));
    y.bad(0, true);
    check.due("Promise 14: none, as 0 is BAD", 0, () -> y.ofEdge(0, 1));
    check.due("Promise 14: none is the first", -1, () -> y.ofEdge(0, 2));
  }

  private static void ofEdgeOfForty() {
    TestkitchenBench x = Benches.withKnown(40);
    x.ask(0, 0, 0, 0);
    x.lead(0, -1, -1);
    check.due("Promise 14: all 40", 40, () -> x.ofEdge(1, 1));
    check.due("Promise 14: one of them is KEPT", 1, () -> x.ofEdge(1, 0));
    check.due("Promise 14: the first of 40", 0, () -> x.ofEdge(1, 2));
    x.ask(0, 2, 1, 9);
    check.due("Promise 14: the last of 40 alone", 39, () -> x.ofEdge(0, 2));
    check.due("Promise 14: that is one", 1, () -> x.ofEdge(0, 1));
    check.due("Promise 14: 39 others", 39, () -> x.ofEdge(1, 1));
  }

  // ---- promise 15

  private static void manyOfNothing() {
    TestkitchenBench x = new TestkitchenBench();
    check.due("Promise 15: what 0, the smallest", 0, () -> x.many(0));
    check.due("Promise 15: what 7, the largest", 1, () -> x.many(7));
    x.bad(0, true);
    x.taste(0);
    check.due("Promise 15: one KNOWN", 1, () -> x.many(0));
    check.due("Promise 15: one KEPT", 1, () -> x.many(1));
    check.due("Promise 15: no EDGE of a KEPT one", 0, () -> x.many(2));
    check.due("Promise 15: no EDGE of a KNOWN one", 0, () -> x.many(3));
    check.due("Promise 15: the FAILURE 0 is one", 1, () -> x.many(4));
  }

  private static void manyNodes() {
    TestkitchenBench x = new TestkitchenBench();
    x.lead(0, 0, 0);
    check.due("Promise 15: 0 to itself", 1, () -> x.many(7));
    x.lead(5, 6, 7);
    check.due("Promise 15: NODES to which one can't come", 1, () -> x.many(7));
    x.lead(5, -1, -1);
    for (int last = 1; last < 12; last++) {
      int n = last;
      x.lead(last - 1, last % 2 == 0 ? last : -1, last % 2 == 0 ? -1 : last);
      check.due("Promise 15: NODES in a row to " + last, n + 1, () -> x.many(7));
    }
    TestkitchenBench down = new TestkitchenBench();
    down.lead(0, 11, -1);
    for (int node = 11; node > 1; node--) {
      down.lead(node, -1, node - 1);
    }
    check.due("Promise 15: all 12, downwards", 12, () -> down.many(7));
    down.bad(11, true);
    down.bad(0, true);
    check.due("Promise 15: over the EDGES of BAD NODES, too", 12, () -> down.many(7));
    down.lead(1, 0, 0);
    check.due("Promise 15: 0 counts once", 12, () -> down.many(7));
    down.lead(0, -1, 1);
    check.due("Promise 15: 0 and 1", 2, () -> down.many(7));
  }

  private static void manyEdgesAndFailures() {
    TestkitchenBench x = Benches.sevenFailures();
    check.due("Promise 15: no FAILURE, as none is KNOWN", 0, () -> x.many(4));
    for (int value = 0; value < 10; value++) {
      x.taste(value);
    }
    check.due("Promise 15: six BAD NODES, and the endless one", 7, () -> x.many(4));
    check.due("Promise 15: seven are KEPT", 7, () -> x.many(1));
    check.due("Promise 15: their EDGES", 12, () -> x.many(2));
    check.due("Promise 15: EDGES of all", 12, () -> x.many(3));
    for (int node = 1; node < 12; node += 2) {
      x.bad(node, false);
    }
    check.due("Promise 15: the endless one alone", 1, () -> x.many(4));
    x.lead(10, -1, -1);
    check.due("Promise 15: no FAILURE any more", 0, () -> x.many(4));
    x.bad(0, true);
    check.due("Promise 15: one FAILURE, of the one that is KEPT", 1, () -> x.many(4));
  }

  private static void manyAtTheLimits() {
    TestkitchenBench x = Benches.full();
    check.due("Promise 15: 40 KNOWN", 40, () -> x.many(0));
    check.due("Promise 15: six RELATIONS", 6, () -> x.many(5));
    x.draw(9999);
    check.due("Promise 15: DRAW 9999", 9999, () -> x.many(6));
    x.draw(0);
    check.due("Promise 15: DRAW 0", 0, () -> x.many(6));
    TestkitchenBench all = new TestkitchenBench();
    for (int node = 0; node < 12; node++) {
      all.ask(node, 3, 0, 5);
      all.lead(node, node == 11 ? -1 : node + 1, node == 11 ? -1 : node + 1);
    }
    all.taste(0);
    check.due("Promise 15: twelve EDGES", 12, () -> all.many(2));
    all.taste(9);
    check.due("Promise 15: all 24 EDGES", 24, () -> all.many(2));
    check.due("Promise 15: all 24 EDGES of KNOWN ones", 24, () -> all.many(3));
  }

  // ---- promise 16

  private static void meanOfNoneAndOne() {
    TestkitchenBench x = new TestkitchenBench();
    check.due("Promise 16: 0 without any", 0.0, () -> x.meanEnergy());
    x.taste(0);
    check.due("Promise 16: of one", 4.0, () -> x.meanEnergy());
    for (int i = 0; i < 5; i++) {
      x.mutate();
    }
    check.due("Promise 16: of one without ENERGY", 0.0, () -> x.meanEnergy());
    check.due("Promise 16: which is KEPT", 1, () -> x.many(1));
  }

  private static void meanIsNotCut() {
    TestkitchenBench x = Benches.fourLayers();
    x.taste(9000);
    check.due("Promise 16: of 4, 4 and 7, not of the OLD one", 5.0, () -> x.meanEnergy());
    x.mutate();
    check.due("Promise 16: of 4, 4 and 6", 14 / 3.0, () -> x.meanEnergy());
    TestkitchenBench y = Benches.withThreeKnown();
    y.mutate();
    check.due("Promise 16: of 6 and 7", 6.5, () -> y.meanEnergy());
    TestkitchenBench z = Benches.withKnown(40);
    // Nine have one EDGE alone, and the last one two.
    check.due("Promise 16: of nine times 4, and 7, with 40 KNOWN", 4.3, () -> z.meanEnergy());
  }
}
