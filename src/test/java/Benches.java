/** Benches that tests begin with, made by the calls of the face alone. */
final class Benches {
  private static final int[] PLACE = {1000, 100, 10, 1};

  private Benches() {
  }

  /** The case with these values of the SLOTS 0 to 3. */
  static int test(int a, int b, int c, int d) {
    return 1000 * a + 100 * b + 10 * c + d;
  }

  /** The case with this value of a SLOT, and `rest` for the others. */
  static int only(int slot, int value, int rest) {
    return 1111 * rest + (value - rest) * PLACE[slot];
  }

  /** Two nodes in a row: 0 asks SLOT 0 < 5, 1 asks SLOT 1 < 5. */
  static TestkitchenBench twoInARow() {
    TestkitchenBench x = new TestkitchenBench();
    x.ask(0, 0, 0, 5);
    x.ask(1, 1, 0, 5);
    x.lead(0, 1, 1);
    return x;
  }

  /** twoInARow with 0 {0,2} OLD, 1 {1,2} and 2 {0,3} KEPT. */
  static TestkitchenBench withThreeKnown() {
    TestkitchenBench x = twoInARow();
    x.taste(0);
    x.taste(9000);
    x.taste(900);
    return x;
  }

  /** Four nodes in a row: the NODE n asks whether SLOT n is smaller than 5. */
  static TestkitchenBench layers() {
    TestkitchenBench x = new TestkitchenBench();
    for (int node = 0; node < 4; node++) {
      x.ask(node, node, 0, 5);
      x.lead(node, node == 3 ? -1 : node + 1, node == 3 ? -1 : node + 1);
    }
    return x;
  }

  /** layers() with 0 {0,2,5,7}, 1 {0,3,4,7} and 2 {1,3,5,7}; 9000 {1,2,4,6} is NEEDED still. */
  static TestkitchenBench fourLayers() {
    TestkitchenBench x = layers();
    x.taste(99);
    x.taste(909);
    x.taste(9999);
    return x;
  }

  /** All nodes in a row, to be left at its end alone. */
  static TestkitchenBench row() {
    TestkitchenBench x = new TestkitchenBench();
    for (int node = 0; node < 11; node++) {
      x.lead(node, node + 1, node + 1);
    }
    return x;
  }

  /** All nodes in a ring that is never left. */
  static TestkitchenBench ring() {
    TestkitchenBench x = row();
    x.lead(11, 0, 0);
    return x;
  }

  /** An even NODE asks SLOT 3 for one VALUE, and leads to the BAD NODE behind it, or on. */
  static TestkitchenBench sevenFailures() {
    TestkitchenBench x = new TestkitchenBench();
    for (int node = 0; node < 12; node += 2) {
      x.ask(node, 3, 1, node / 2);
      x.lead(node, node + 1, node == 10 ? 10 : node + 2);
      x.bad(node + 1, true);
    }
    return x;
  }

  /** All that is generated is 0, but for one SLOT, with the WEIGHTS of a new object. */
  static TestkitchenBench onlyWeightsOf(int slot) {
    TestkitchenBench x = new TestkitchenBench();
    for (int other = 0; other < 4; other++) {
      if (other != slot) {
        x.weights(other, 0, 0, 0);
      }
    }
    return x;
  }

  /** Of each KNOWN CASE whether it is KEPT (1). */
  static String kept(TestkitchenBench x) {
    return ofAllKnown(x, 1);
  }

  /** Of each KNOWN CASE how often it was MUTATED. */
  static String mutated(TestkitchenBench x) {
    return ofAllKnown(x, 3);
  }

  private static String ofAllKnown(TestkitchenBench x, int what) {
    StringBuilder told = new StringBuilder();
    int known = x.many(0);
    for (int k = 0; k < known; k++) {
      told.append(k == 0 ? "" : " ").append(x.ofKnown(k, what));
    }
    return told.toString();
  }

  /** Thirteen ends: nine by the values 0 to 8 of one SLOT, four behind its 9 by another. */
  static void chain(TestkitchenBench x, int slot, int next) {
    for (int node = 0; node < 12; node++) {
      x.ask(node, node < 9 ? slot : next, 1, node < 9 ? node : node - 9);
      x.lead(node, -1, node == 11 ? -1 : node + 1);
    }
  }

  /** The case that comes to the end of that number. */
  static int chainTest(int slot, int next, int end) {
    return end < 9 ? end * PLACE[slot] : 9 * PLACE[slot] + (end - 9) * PLACE[next];
  }

  static void tasteChain(TestkitchenBench x, int slot, int next, int most) {
    for (int end = 0; end < 13 && x.many(0) < most; end++) {
      x.taste(chainTest(slot, next, end));
    }
  }

  static TestkitchenBench withKnown(int most) {
    TestkitchenBench x = new TestkitchenBench();
    int[][] ways = {{3, 2}, {1, 0}, {0, 1}, {2, 3}};
    for (int[] way : ways) {
      if (x.many(0) < most) {
        chain(x, way[0], way[1]);
        tasteChain(x, way[0], way[1], most);
      }
    }
    return x;
  }

  static TestkitchenBench withFortyKnown() {
    return withKnown(40);
  }

  /** Forty known ones, and six relations. */
  static TestkitchenBench full() {
    TestkitchenBench x = withFortyKnown();
    for (int i = 0; i < 6; i++) {
      x.relation(i % 2, i % 4, (i + 3) % 4);
    }
    return x;
  }

  /** A bit of everything: failures and ends, old and kept ones, mutated ones, three relations. */
  static TestkitchenBench rich() {
    TestkitchenBench x = layers();
    x.lead(3, 4, -1);
    x.ask(4, 0, 1, 7);
    x.lead(4, 5, 6);
    x.bad(5, true);
    x.ask(6, 1, 2, 3);
    x.lead(6, 4, -1);
    x.bad(9, true);
    x.weights(0, 9, 0, 1);
    x.weights(1, 0, 3, 2);
    x.weights(2, 0, 0, 0);
    x.weights(3, 1, 5, 9);
    x.draw(4321);
    int[] tests = {0, 9, 9999, 7000, 400, 4444, 5050, 90};
    for (int test : tests) {
      x.taste(test);
    }
    x.generate();
    x.mutate();
    x.mutate();
    x.relation(0, 0, 3);
    x.relation(1, 2, 0);
    x.relation(0, 1, 2);
    return x;
  }
}
