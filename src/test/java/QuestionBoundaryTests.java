import java.math.BigInteger;

/**
 * The boundary cases of the promises 17 to 26: shrinking, relations, and what would be. What is
 * refused stands in RefusalTests.
 */
public final class QuestionBoundaryTests {
  private static final String INDEX = "throws.IndexOutOfBoundsException";
  private static final String ARGUMENT = "throws.IllegalArgumentException";
  private static final String STATE = "throws.IllegalStateException";
  private static final Check check = new Check("QuestionBoundaryTests");

  public static void main(String[] args) {
    shrinkFirstAndLast();
    shrinkEachSlot();
    shrinkAgainAndAgain();
    shrinkOneOfTwo();
    shrinkOverAGap();
    relationFirstAndLast();
    relationOfEachPair();
    oneMoreUpToNine();
    exchangesTwo();
    breaksByResults();
    brokenByFirstAndLast();
    brokenByOfForty();
    wouldDropNoneOrNothing();
    wouldDropWithForty();
    otherwiseAtBounds();
    otherwiseOfEachNode();
    otherwiseOfForty();
    fewestOfNothing();
    fewestUpToTwelve();
    fewestOfSome();
    smallestFirstAndLast();
    smallestOfAHundred();
    smallestAtBadNodes();
    aheadOneAndFifty();
    aheadTheFiftieth();
    aheadWithForty();
    digestWrapsAround();
    lastCall();
    check.end();
  }

  // ---- promise 17

  private static void shrinkFirstAndLast() {
    TestkitchenBench x = new TestkitchenBench();
    check.due("Promise 17: no FAILURE", ARGUMENT, () -> x.shrink(0));
    x.bad(0, true);
    check.due("Promise 17: the smallest CASE stays", 0, () -> x.shrink(0));
    check.due("Promise 17: the largest CASE, with the FAILURE 0", 0, () -> x.shrink(9999));
    check.due("Promise 17: no CASE, though it would fail, too", ARGUMENT, () -> x.shrink(10000));
    check.due("Promise 17: nor below 0", ARGUMENT, () -> x.shrink(-1));
    TestkitchenBench y = Benches.ring();
    check.due("Promise 17: the largest CASE, with the FAILURE 12", 0, () -> y.shrink(9999));
    TestkitchenBench z = Benches.row();
    z.bad(11, true);
    check.due("Promise 17: the largest CASE, with the FAILURE 11", 0, () -> z.shrink(9999));
  }

  private static void shrinkEachSlot() {
    for (int slot = 0; slot < 4; slot++) {
      int s = slot;
      String told = "Promise 17: SLOT " + slot;
      TestkitchenBench x = new TestkitchenBench();
      x.ask(0, slot, 2, 5);
      x.lead(0, 7, 8);
      x.bad(7, true);
      int six = Benches.only(slot, 6, 0);
      check.due(told + " to the smallest above 5", six, () -> x.shrink(9999));
      check.due(told + " is that already", six, () -> x.shrink(Benches.only(s, 6, 9)));
      check.due(told + " without a FAILURE", ARGUMENT, () -> x.shrink(Benches.only(s, 5, 9)));
      x.bad(8, true);
      check.due(told + " with the same FAILURE", six, () -> x.shrink(Benches.only(s, 7, 3)));
      check.due(told + " with the other one", 0, () -> x.shrink(Benches.only(s, 5, 9)));
      x.ask(0, slot, 1, 9);
      check.due(told + " stays 9", Benches.only(s, 9, 0), () -> x.shrink(9999));
      x.ask(0, slot, 2, 0);
      check.due(told + " to 1", Benches.only(s, 1, 0), () -> x.shrink(9999));
    }
  }

  /** SLOT 2 can be smaller only behind SLOT 3, SLOT 1 only behind that, and SLOT 0 at last. */
  private static void shrinkAgainAndAgain() {
    TestkitchenBench x = new TestkitchenBench();
    for (int slot = 0; slot < 3; slot++) {
      int node = 2 * slot;
      x.ask(node, slot, 1, 9);
      x.lead(node, node + 2, node + 1);
      x.ask(node + 1, slot + 1, 1, 0);
      x.lead(node + 1, node + 2, -1);
    }
    x.bad(6, true);
    check.due("Promise 17: four times, SLOT by SLOT", 0, () -> x.shrink(9999));
    check.due("Promise 17: three times", 0, () -> x.shrink(9990));
    check.due("Promise 17: as SLOT 3 is smaller first", 0, () -> x.shrink(9995));
    TestkitchenBench y = new TestkitchenBench();
    y.ask(0, 0, 1, 0);
    y.lead(0, 2, 1);
    y.ask(1, 1, 2, 4);
    y.lead(1, 2, -1);
    y.bad(2, true);
    // With SLOT 1 first it would be 9500, and then 0500.
    check.due("Promise 17: from SLOT 0 on", 0, () -> y.shrink(9999));
  }

  /** One of two SLOTS must stay 9: that is the one behind, as the one before is smaller first. */
  private static void shrinkOneOfTwo() {
    for (int first = 0; first < 4; first++) {
      for (int second = first + 1; second < 4; second++) {
        TestkitchenBench x = new TestkitchenBench();
        x.ask(0, first, 1, 9);
        x.lead(0, 2, 1);
        x.ask(1, second, 1, 9);
        x.lead(1, 2, -1);
        x.bad(2, true);
        String told = "Promise 17: SLOT " + first + " ahead of " + second;
        check.due(told, Benches.only(second, 9, 0), () -> x.shrink(9999));
      }
    }
  }

  private static void shrinkOverAGap() {
    TestkitchenBench x = new TestkitchenBench();
    x.ask(0, 2, 1, 9);
    x.lead(0, 5, 1);
    x.ask(1, 2, 1, 0);
    x.lead(1, 5, -1);
    x.bad(5, true);
    check.due("Promise 17: the VALUES 1 to 8 have no FAILURE", 0, () -> x.shrink(90));
    x.ask(1, 2, 1, 3);
    check.due("Promise 17: the smallest one, above some without it", 30, () -> x.shrink(90));
    x.bad(5, false);
    x.lead(5, 5, 5);
    check.due("Promise 17: the same with the FAILURE 12", 30, () -> x.shrink(4699 - 9));
  }

  // ---- promise 18

  private static void relationFirstAndLast() {
    TestkitchenBench x = new TestkitchenBench();
    check.due("Promise 18: KIND 0, the smallest and the largest SLOT", 0, () -> x.relation(0, 0, 3));
    check.due("Promise 18: KIND 0, the largest and the smallest", 1, () -> x.relation(0, 3, 0));
    check.due("Promise 18: KIND 1, the other far below", 2, () ->
        x.relation(1, 0, Integer.MIN_VALUE));
    check.due("Promise 18: KIND 1, the other far above", 3, () ->
        x.relation(1, 3, Integer.MAX_VALUE));
    check.due("Promise 18: KIND 1, the other is the same", 4, () -> x.relation(1, 3, 3));
    check.due("Promise 18: five are there", 5, () -> x.many(5));
    check.due("Promise 18: the sixth has the number 5", 5, () -> x.relation(0, 0, 3));
    check.due("Promise 18: six are there", 6, () -> x.many(5));
    check.due("Promise 18: no seventh", STATE, () -> x.relation(0, 0, 3));
    check.due("Promise 18: no seventh of KIND 1", STATE, () -> x.relation(1, 0, 0));
    check.due("Promise 19: the last of six", true, () -> {
      x.ask(0, 0, 0, 5);
      return x.breaks(5, 9);
    });
    check.due("Promise 19: none behind it", INDEX, () -> x.breaks(6, 9));
    check.due("Promise 20: the last of six", -1, () -> x.brokenBy(5));
    check.due("Promise 20: none behind it", INDEX, () -> x.brokenBy(6));
  }

  private static void relationOfEachPair() {
    for (int slot = 0; slot < 4; slot++) {
      for (int other = -1; other < 5; other++) {
        TestkitchenBench x = new TestkitchenBench();
        int s = slot;
        int o = other;
        boolean wrong = other < 0 || other > 3;
        Object due = slot == other ? ARGUMENT : wrong ? INDEX : (Object) 0;
        String told = "Promise 18: the SLOTS " + slot + " and " + other;
        check.due(told + " of KIND 0", due, () -> x.relation(0, s, o));
        TestkitchenBench y = new TestkitchenBench();
        check.due(told + " of KIND 1", 0, () -> y.relation(1, s, o));
      }
    }
  }

  // ---- promise 19

  /** 9 stays 9, and no other SLOT is changed. */
  private static void oneMoreUpToNine() {
    for (int slot = 0; slot < 4; slot++) {
      TestkitchenBench x = new TestkitchenBench();
      x.relation(1, slot, 9);
      for (int value = 0; value < 10; value++) {
        int test = Benches.only(slot, value, 9 - value);
        String told = "Promise 19: SLOT " + slot + ", " + value + " and 1 more";
        x.ask(0, slot, 1, value);
        check.due(told + " is another one", value < 9, () -> x.breaks(0, test));
        x.ask(0, slot, 1, value < 9 ? value + 1 : 0);
        check.due(told + " is the next one, or 9", value < 9, () -> x.breaks(0, test));
      }
      int nine = Benches.only(slot, 9, 0);
      for (int other = 0; other < 4; other++) {
        if (other != slot) {
          x.ask(0, other, 1, 0);
          String told = "Promise 19: SLOT " + other + " as SLOT " + slot + " is more";
          check.due(told, false, () -> x.breaks(0, 0));
          check.due(told + " than 9", false, () -> x.breaks(0, nine));
        }
      }
    }
  }

  private static void exchangesTwo() {
    for (int slot = 0; slot < 4; slot++) {
      for (int other = 0; other < 4; other++) {
        if (slot != other) {
          exchanged(slot, other);
        }
      }
    }
  }

  /** Of 1234: the one becomes the other, the other the one, and no third is changed. */
  private static void exchanged(int slot, int other) {
    TestkitchenBench x = new TestkitchenBench();
    x.relation(0, slot, other);
    for (int asked = 0; asked < 4; asked++) {
      int then = asked == slot ? other : asked == other ? slot : asked;
      for (int bound = 0; bound < 10; bound++) {
        x.ask(0, asked, 1, bound);
        boolean due = then != asked && (bound == asked + 1 || bound == then + 1);
        String told = "Promise 19: " + slot + " for " + other + ", SLOT " + asked + " is " + bound;
        check.due(told, due, () -> x.breaks(0, 1234));
      }
    }
  }

  private static void breaksByResults() {
    TestkitchenBench x = new TestkitchenBench();
    x.relation(0, 0, 3);
    x.ask(0, 0, 0, 5);
    check.due("Promise 19: the smallest CASE", false, () -> x.breaks(0, 0));
    check.due("Promise 19: the largest CASE", false, () -> x.breaks(0, 9999));
    check.due("Promise 19: 9 becomes 9000", true, () -> x.breaks(0, 9));
    x.bad(0, true);
    check.due("Promise 19: one FAILURE, no EDGE", false, () -> x.breaks(0, 9));
    x.bad(0, false);
    x.lead(0, 1, -1);
    x.bad(1, true);
    check.due("Promise 19: a FAILURE and an END", true, () -> x.breaks(0, 9));
    x.lead(0, 1, 2);
    x.bad(2, true);
    check.due("Promise 19: two FAILURES", true, () -> x.breaks(0, 9));
    x.lead(0, 1, 1);
    check.due("Promise 19: other EDGES, and the same FAILURE", false, () -> x.breaks(0, 9));
    x.bad(1, false);
    check.due("Promise 19: other EDGES, and the same last one", false, () -> x.breaks(0, 9));
  }

  // ---- promise 20

  private static void brokenByFirstAndLast() {
    TestkitchenBench x = new TestkitchenBench();
    x.relation(1, 3, 0);
    check.due("Promise 20: none is KNOWN", -1, () -> x.brokenBy(0));
    x.taste(4);
    check.due("Promise 20: the one that is KNOWN does not", -1, () -> x.brokenBy(0));
    x.ask(0, 3, 0, 5);
    check.due("Promise 20: the one that is KNOWN does", 0, () -> x.brokenBy(0));
    TestkitchenBench y = Benches.withThreeKnown();
    y.relation(1, 1, 0);
    y.relation(0, 1, 2);
    y.relation(0, 0, 1);
    check.due("Promise 20: the last one alone", 2, () -> y.brokenBy(1));
    check.due("Promise 20: the first of two", 1, () -> y.brokenBy(2));
    y.ask(1, 1, 0, 1);
    check.due("Promise 20: the first one", 0, () -> y.brokenBy(0));
    check.due("Promise 20: though it is OLD", 0, () -> y.ofKnown(0, 1));
  }

  private static void brokenByOfForty() {
    TestkitchenBench x = Benches.withKnown(40);
    x.lead(0, -1, -1);
    x.relation(0, 2, 3);
    x.relation(1, 0, 0);
    x.relation(1, 2, 0);
    x.ask(0, 2, 1, 9);
    check.due("Promise 20: of 40 the CASE 9", 9, () -> x.brokenBy(0));
    check.due("Promise 20: none of 40", -1, () -> x.brokenBy(1));
    x.ask(0, 2, 1, 0);
    check.due("Promise 20: the first of 40", 0, () -> x.brokenBy(2));
    x.ask(0, 2, 2, 8);
    check.due("Promise 20: 80 alone becomes another one", 38, () -> x.brokenBy(2));
    x.relation(0, 2, 1);
    x.ask(0, 1, 1, 9);
    check.due("Promise 20: the first with a 9 in SLOT 1", 21, () -> x.brokenBy(3));
    check.due("Promise 20: that is 900", 900, () -> x.ofKnown(21, 0));
    x.ask(0, 3, 1, 9);
    x.bad(0, true);
    check.due("Promise 20: none of 40 with one FAILURE", -1, () -> x.brokenBy(0));
    x.bad(0, false);
    x.relation(0, 3, 2);
    x.ask(0, 3, 1, 8);
    check.due("Promise 20: 8 and 80, the first of them", 8, () -> x.brokenBy(4));
    x.lead(0, 1, 1);
    x.ask(1, 2, 2, 8);
    x.lead(1, -1, -1);
    x.relation(0, 2, 0);
    check.due("Promise 20: 9000 to 90, the first of them", 30, () -> x.brokenBy(5));
    check.due("Promise 20: that is 9000", 9000, () -> x.ofKnown(30, 0));
  }

  // ---- promise 21

  private static void wouldDropNoneOrNothing() {
    TestkitchenBench x = Benches.twoInARow();
    check.due("Promise 21: the smallest CASE, none is KNOWN", 0, () -> x.wouldDrop(0));
    check.due("Promise 21: the largest CASE, none is KNOWN", 0, () -> x.wouldDrop(9999));
    x.taste(0);
    check.due("Promise 21: nothing comes of a KEPT one", -1, () -> x.wouldDrop(0));
    check.due("Promise 21: nothing comes of one that is not NEEDED", -1, () -> x.wouldDrop(1));
    check.due("Promise 21: it is NEEDED, and none would be OLD", 0, () -> x.wouldDrop(9900));
    x.taste(9000);
    check.due("Promise 21: it is NEEDED, and one would be OLD", 1, () -> x.wouldDrop(900));
    check.due("Promise 21: nothing is KNOWN by that", 2, () -> x.many(0));
    x.taste(900);
    check.due("Promise 21: nothing comes of an OLD one", -1, () -> x.wouldDrop(0));
  }

  private static void wouldDropWithForty() {
    TestkitchenBench x = Benches.withKnown(39);
    check.due("Promise 21: the 40th", 0, () -> x.wouldDrop(90));
    x.taste(90);
    check.due("Promise 21: with 40 one that is KEPT", -1, () -> x.wouldDrop(90));
    check.due("Promise 21: with 40 one that is OLD", -1, () -> x.wouldDrop(0));
    check.due("Promise 21: with 40 one that is not NEEDED", -1, () -> x.wouldDrop(5555));
    check.due("Promise 21: with 40 one that is NEEDED", 0, () -> x.wouldDrop(91));
    check.due("Promise 21: though it would be refused", STATE, () -> x.taste(91));
    int[][] asks = {{0, 0}, {3, 9}, {2, 4}, {0, 4}};
    for (int node = 0; node < 4; node++) {
      x.ask(node, asks[node][0], 1, asks[node][1]);
      x.lead(node, node == 3 ? -1 : node + 1, node > 1 ? -1 : node + 1);
    }
    // KEPT are 40 {0,3,4,7}, one {0,2,5}, and one {1,3,5}; 4049 is {1,2,4,6}.
    check.due("Promise 21: with 40 three are KEPT", 3, () -> x.many(1));
    check.due("Promise 21: with 40 one would be OLD", 1, () -> x.wouldDrop(4049));
    check.due("Promise 21: with 40 three are KEPT still", 3, () -> x.many(1));
    check.due("Promise 21: there are 40 still", 40, () -> x.many(0));
    check.due("Promise 21: and no number behind them", INDEX, () -> x.ofKnown(40, 0));
  }

  // ---- promise 22

  private static void otherwiseAtBounds() {
    TestkitchenBench x = new TestkitchenBench();
    check.due("Promise 22: none is KNOWN", 0, () -> x.otherwise(0, 2, 0));
    x.taste(5000);
    check.due("Promise 22: greater than 0, the smallest BOUND", 1, () -> x.otherwise(0, 2, 0));
    check.due("Promise 22: smaller than 9, the largest BOUND", 1, () -> x.otherwise(0, 0, 9));
    check.due("Promise 22: smaller than 0, as it asks", 0, () -> x.otherwise(0, 0, 0));
    check.due("Promise 22: smaller than its own VALUE", 0, () -> x.otherwise(0, 0, 5));
    check.due("Promise 22: smaller than one more", 1, () -> x.otherwise(0, 0, 6));
    check.due("Promise 22: the same as one less", 0, () -> x.otherwise(0, 1, 4));
    check.due("Promise 22: the same", 1, () -> x.otherwise(0, 1, 5));
    check.due("Promise 22: the same as one more", 0, () -> x.otherwise(0, 1, 6));
    check.due("Promise 22: greater than one less", 1, () -> x.otherwise(0, 2, 4));
    check.due("Promise 22: greater than its own VALUE", 0, () -> x.otherwise(0, 2, 5));
    check.due("Promise 22: greater than 9", 0, () -> x.otherwise(0, 2, 9));
    check.due("Promise 22: nothing is changed", 1, () -> x.run(5000));
  }

  private static void otherwiseOfEachNode() {
    for (int node = 1; node < 12; node++) {
      int n = node;
      TestkitchenBench x = new TestkitchenBench();
      x.taste(5000);
      String told = "Promise 22: NODE " + node;
      check.due(told + ", that none comes to", 0, () -> x.otherwise(n, 2, 4));
      x.lead(0, node, node);
      check.due(told + ", that one comes to", 1, () -> x.otherwise(n, 2, 4));
      check.due(told + ", of another EDGE, but the same RESULT", 0, () -> x.otherwise(0, 2, 4));
      x.ask(node, 3, 0, 0);
      check.due(told + ", of its own SLOT, not of SLOT 0", 0, () -> x.otherwise(n, 2, 4));
      check.due(told + ", of its own SLOT", 1, () -> x.otherwise(n, 1, 0));
      x.bad(node, true);
      check.due(told + ", that is BAD", 0, () -> x.otherwise(n, 1, 0));
      x.lead(0, node, -1);
      check.due(told + ", a FAILURE instead of an END", 1, () -> x.otherwise(0, 2, 4));
      x.bad(node, false);
      x.lead(node, node, -1);
      check.due(told + ", endless instead of an END", 1, () -> x.otherwise(0, 2, 4));
    }
  }

  private static void otherwiseOfForty() {
    TestkitchenBench x = Benches.withThreeKnown();
    check.due("Promise 22: all three, of which one is OLD", 3, () -> x.otherwise(1, 2, 4));
    check.due("Promise 22: two of three", 2, () -> x.otherwise(1, 0, 0));
    check.due("Promise 22: none of three", 0, () -> x.otherwise(1, 0, 9));
    TestkitchenBench y = Benches.withKnown(40);
    y.lead(0, -1, -1);
    y.ask(0, 2, 0, 0);
    check.due("Promise 22: the last of 40 alone", 1, () -> y.otherwise(0, 2, 8));
    check.due("Promise 22: all but the last", 39, () -> y.otherwise(0, 0, 9));
    y.ask(0, 2, 0, 9);
    check.due("Promise 22: all 40", 40, () -> y.otherwise(0, 2, 8));
    check.due("Promise 22: none of 40", 0, () -> y.otherwise(0, 0, 9));
  }

  // ---- promise 23

  private static void fewestOfNothing() {
    TestkitchenBench x = new TestkitchenBench();
    check.due("Promise 23: none is KNOWN", 0, () -> x.fewest());
    x.taste(0);
    check.due("Promise 23: one is KNOWN", 1, () -> x.fewest());
    x.bad(0, true);
    check.due("Promise 23: one that COVERS nothing", 0, () -> x.fewest());
  }

  private static void fewestUpToTwelve() {
    for (int known = 1; known < 16; known++) {
      TestkitchenBench x = Benches.withKnown(known);
      int k = known;
      String told = "Promise 23: with " + known + " KNOWN";
      check.due(told, k, () -> x.many(0));
      if (known < 14) {
        check.due(told + ", all of them", known > 12 ? -1 : k, () -> x.fewest());
      }
      x.ask(0, 0, 0, 0);
      x.lead(0, -1, -1);
      check.due(told + ", any of them", known > 12 ? -1 : 1, () -> x.fewest());
      x.bad(0, true);
      check.due(told + ", none of them", known > 12 ? -1 : 0, () -> x.fewest());
    }
    TestkitchenBench y = Benches.withKnown(40);
    check.due("Promise 23: with 40 KNOWN", -1, () -> y.fewest());
  }

  private static void fewestOfSome() {
    TestkitchenBench x = Benches.withThreeKnown();
    check.due("Promise 23: two of three", 2, () -> x.fewest());
    TestkitchenBench y = Benches.fourLayers();
    y.taste(9000);
    // 0 {0,2,5,7}, 1 {0,3,4,7}, 2 {1,3,5,7}, 3 {1,2,4,6}.
    check.due("Promise 23: three of four", 3, () -> y.fewest());
    // 999 {0,3,5,7} and 3 would COVER all, if 999 was KNOWN.
    check.due("Promise 21: nothing would come of 999", -1, () -> y.wouldDrop(999));
    check.due("Promise 23: what was looked at is not KNOWN", 3, () -> y.fewest());
    y.ask(0, 0, 0, 0);
    check.due("Promise 23: two of four", 2, () -> y.fewest());
    TestkitchenBench z = Benches.layers();
    z.taste(9);
    z.taste(0);
    z.taste(9999);
    check.due("Promise 23: the first one is OLD", "0 1 1", () -> Benches.kept(z));
    check.due("Promise 23: two, without the first one", 2, () -> z.fewest());
    TestkitchenBench w = Benches.layers();
    w.taste(99);
    w.taste(9900);
    check.due("Promise 12: nothing comes of 999", -1, () -> w.taste(999));
    check.due("Promise 23: two that are KNOWN", 2, () -> w.fewest());
    // FAILURES are not asked for: 0 is endless, and the others COVER its EDGES.
    TestkitchenBench v = new TestkitchenBench();
    for (int node = 0; node < 3; node++) {
      v.ask(node, node, 0, 5);
    }
    v.lead(0, 1, 2);
    v.lead(1, 2, -1);
    v.lead(2, 1, -1);
    v.taste(90);
    v.taste(9900);
    v.taste(0);
    check.due("Promise 23: three are KEPT", 3, () -> v.many(1));
    check.due("Promise 23: two COVER all EDGES", 2, () -> v.fewest());
  }

  // ---- promise 24

  private static void smallestFirstAndLast() {
    TestkitchenBench x = new TestkitchenBench();
    check.due("Promise 24: EDGE 0, that none COVERS", -1, () -> x.smallest(0, 0));
    check.due("Promise 24: EDGE 1, the smallest CASE", 0, () -> x.smallest(1, 0));
    check.due("Promise 24: EDGE 1, the largest CASE", 9900, () -> x.smallest(1, 9999));
    check.due("Promise 24: EDGE 23, that none COVERS", -1, () -> x.smallest(23, 9999));
    for (int edge = 2; edge < 24; edge++) {
      int e = edge;
      x.lead(0, edge / 2, edge / 2);
      x.ask(edge / 2, 3, 0, 7);
      int due = edge % 2 == 0 ? 1200 : 1207;
      check.due("Promise 24: EDGE " + edge, due, () -> x.smallest(e, 1234));
    }
  }

  private static void smallestOfAHundred() {
    TestkitchenBench x = new TestkitchenBench();
    for (int value = 0; value < 10; value++) {
      int v = value;
      x.ask(0, 2, 1, value);
      check.due("Promise 24: SLOT 2 is " + value, 5600 + 10 * v, () -> x.smallest(0, 5678));
      x.ask(0, 3, 1, value);
      check.due("Promise 24: SLOT 3 is " + value, 5600 + v, () -> x.smallest(0, 5678));
    }
    x.ask(0, 1, 1, 3);
    check.due("Promise 24: the first of the next hundred is not looked at", -1, () ->
        x.smallest(0, 1200));
    check.due("Promise 24: nor the last of those before", -1, () -> x.smallest(0, 1400));
    check.due("Promise 24: the first of its own hundred", 1300, () -> x.smallest(0, 1399));
    x.ask(0, 2, 1, 9);
    x.lead(0, 1, -1);
    x.ask(1, 3, 1, 9);
    check.due("Promise 24: the last of a hundred", 99, () -> x.smallest(2, 0));
    check.due("Promise 24: the last of all", 9999, () -> x.smallest(2, 9900));
    x.lead(0, 1, 1);
    x.lead(1, 2, -1);
    x.ask(2, 1, 1, 3);
    check.due("Promise 24: SLOT 1 is another one", -1, () -> x.smallest(4, 1299));
    check.due("Promise 24: nor is the next one looked at", -1, () -> x.smallest(4, 1200));
    check.due("Promise 24: nor the one before", -1, () -> x.smallest(4, 1400));
    check.due("Promise 24: SLOT 1 is the same", 1309, () -> x.smallest(4, 1399));
    x.ask(2, 0, 1, 3);
    check.due("Promise 24: SLOT 0 is another one", -1, () -> x.smallest(4, 2999));
    check.due("Promise 24: nor the one before", -1, () -> x.smallest(4, 4000));
    check.due("Promise 24: SLOT 0 is the same", 3009, () -> x.smallest(4, 3000));
  }

  private static void smallestAtBadNodes() {
    TestkitchenBench x = new TestkitchenBench();
    x.lead(0, -1, 11);
    x.lead(11, -1, 0);
    x.ask(11, 2, 0, 5);
    check.due("Promise 24: of an endless one", 50, () -> x.smallest(23, 0));
    x.bad(11, true);
    check.due("Promise 24: the EDGE to a BAD NODE is COVERED", 0, () -> x.smallest(1, 99));
    check.due("Promise 24: an EDGE of a BAD NODE is not", -1, () -> x.smallest(23, 99));
    x.bad(0, true);
    check.due("Promise 24: none COVERS anything", -1, () -> x.smallest(1, 99));
  }

  // ---- promise 25

  private static void aheadOneAndFifty() {
    TestkitchenBench x = new TestkitchenBench();
    check.due("Promise 25: the next one", 1, () -> x.ahead(1));
    check.due("Promise 25: the next 50, all alike", 1, () -> x.ahead(50));
    check.due("Promise 25: DRAW is as before", 1, () -> x.many(6));
    check.due("Promise 25: nothing is KNOWN", 0, () -> x.many(0));
    for (int slot = 0; slot < 4; slot++) {
      x.weights(slot, 0, 0, 0);
    }
    check.due("Promise 25: without WEIGHTS 50 times 0", 1, () -> x.ahead(50));
    x.bad(0, true);
    check.due("Promise 25: one FAILURE", 1, () -> x.ahead(50));
    TestkitchenBench chain = new TestkitchenBench();
    Benches.chain(chain, 3, 2);
    aheadUpToFifty("ends", chain);
    aheadUpToFifty("failures", Benches.sevenFailures());
  }

  private static void aheadUpToFifty(String told, TestkitchenBench y) {
    boolean[] seen = new boolean[200];
    TestkitchenBench twin = new TestkitchenBench();
    int different = 0;
    for (int k = 1; k <= 50; k++) {
      int result = y.run(twin.generate());
      different += seen[result] ? 0 : 1;
      seen[result] = true;
      int kk = k;
      check.due("Promise 25: " + k + " ahead of " + told, different, () -> y.ahead(kk));
    }
    int all = different;
    check.due("Promise 25: several " + told, true, () -> all > 4);
  }

  /** From that DRAW 49 CASES are alike for the PROGRAM, and the 50th is not. */
  private static void aheadTheFiftieth() {
    TestkitchenBench x = Benches.onlyWeightsOf(3);
    x.weights(2, 1, 1, 1);
    int[] tests = new int[50];
    int start = Draws.where(draw -> fiftiethIsNew(draw, tests));
    x.ask(0, 2, 1, tests[49] / 10);
    x.lead(0, 1, 2);
    x.ask(1, 3, 1, tests[49] % 10);
    x.lead(1, -1, 2);
    x.bad(2, true);
    x.draw(start);
    check.due("Promise 25: 49 are alike", 1, () -> x.ahead(49));
    check.due("Promise 25: the 50th is another one", 2, () -> x.ahead(50));
    for (int i = 0; i < 49; i++) {
      x.generate();
    }
    check.due("Promise 25: then the 50th is the next one", 1, () -> x.ahead(1));
    check.due("Promise 25: it is that", tests[49], () -> x.generate());
  }

  private static boolean fiftiethIsNew(int draw, int[] tests) {
    int[] smallest = {0, 3, 7};
    int[] values = {3, 4, 3};
    int state = draw;
    for (int i = 0; i < 50; i++) {
      tests[i] = 0;
      for (int slot = 2; slot < 4; slot++) {
        int part = Draws.next(state) / 100 % 3;
        state = Draws.behind(state, 2);
        tests[i] = 10 * tests[i] + smallest[part] + state / 100 % values[part];
      }
    }
    for (int i = 0; i < 49; i++) {
      if (tests[i] == tests[49]) {
        return false;
      }
    }
    return true;
  }

  private static void aheadWithForty() {
    TestkitchenBench x = Benches.withKnown(40);
    check.due("Promise 25: with 40 KNOWN the next one", 1, () -> x.ahead(1));
    check.due("Promise 25: with 40 KNOWN the next 50", true, () -> x.ahead(50) > 1);
    check.due("Promise 25: there are 40 still", 40, () -> x.many(0));
    check.due("Promise 25: DRAW is as before", 1, () -> x.many(6));
  }

  // ---- promise 26, and the last call

  private static void digestWrapsAround() {
    TestkitchenBench[] all = {
      new TestkitchenBench(), Benches.withThreeKnown(), Benches.withKnown(12), Benches.withKnown(13),
      Benches.rich(), fiveAhead()
    };
    for (TestkitchenBench x : all) {
      String told = "Promise 26: with " + x.many(0) + " KNOWN ";
      BigInteger d = exactDigest(x);
      check.due(told + "d is beyond 64 bits", true, () -> d.bitLength() > 64);
      check.due(told + "it wraps around", d.longValue(), () -> x.digest());
      check.due(told + "it changes nothing", d.longValue(), () -> x.digest());
    }
    int negative = 0;
    for (int known = 0; known < 12; known++) {
      negative += Benches.withKnown(known).digest() < 0 ? 1 : 0;
    }
    int some = negative;
    check.due("Promise 26: some answers are negative, some are not", true, () ->
        some > 0 && some < 12);
  }

  /** From its DRAW the fourth, the fifth and the sixth CASE have RESULTS of their own. */
  private static TestkitchenBench fiveAhead() {
    TestkitchenBench x = new TestkitchenBench();
    Benches.chain(x, 3, 2);
    boolean grows = false;
    for (int draw = 0; draw < 80 && !grows; draw++) {
      x.draw(draw);
      grows = x.ahead(4) < x.ahead(5) && x.ahead(5) < x.ahead(6);
    }
    boolean found = grows;
    check.due("there is a DRAW from which the RESULTS grow", true, () -> found);
    return x;
  }

  private static BigInteger with(BigInteger d, int v) {
    return d.multiply(BigInteger.valueOf(31)).add(BigInteger.valueOf(v));
  }

  private static BigInteger exactDigest(TestkitchenBench x) {
    BigInteger d = BigInteger.valueOf(5740);
    for (int what = 0; what < 8; what++) {
      d = with(d, x.many(what));
    }
    int known = x.many(0);
    int relations = x.many(5);
    for (int k = 0; k < known; k++) {
      for (int what = 0; what < 7; what++) {
        d = with(d, x.ofKnown(k, what));
      }
    }
    for (int edge = 0; edge < 24; edge++) {
      for (int what = 0; what < 3; what++) {
        d = with(d, x.ofEdge(edge, what));
      }
    }
    for (int r = 0; r < relations; r++) {
      d = with(d, x.brokenBy(r));
    }
    d = with(with(d, x.fewest()), x.ahead(5));
    for (int test = 0; test <= 9; test++) {
      d = with(with(with(d, x.run(test)), x.covers(test)), x.wouldDrop(test));
    }
    return d;
  }

  /** An object is used for at most 512 calls: the last one answers as the others do. */
  private static void lastCall() {
    TestkitchenBench x = new TestkitchenBench();
    for (int call = 1; call < 512; call++) {
      x.generate();
    }
    int due = Draws.behind(1, 8 * 511);
    check.due("Promise 15: the 512th call", due, () -> x.many(6));
  }
}
