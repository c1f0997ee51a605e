/** The boundary cases of the promises 8 to 11: generating. What is refused stands in RefusalTests. */
public final class GeneratingBoundaryTests {
  private static final String STATE = "throws.IllegalStateException";
  private static final int[] SMALLEST = {0, 3, 7};
  private static final int[] VALUES = {3, 4, 3};
  private static final Check check = new Check("GeneratingBoundaryTests");

  public static void main(String[] args) {
    weightsAllowed();
    drawAllowed();
    drawWrapsAround();
    drawIsCut();
    generateByWeights();
    generateEveryValue();
    generateWithoutWeights();
    generateInOrder();
    generateWhatIsKnown();
    generateAtTheLimit();
    mutateWrapsAround();
    mutateTheGreatest();
    mutateDownToNoEnergy();
    mutateTheOneThatIsKept();
    mutateAtTheLimit();
    mutateIsTasted();
    check.end();
  }

  // ---- promises 8 and 9

  private static void weightsAllowed() {
    TestkitchenBench x = new TestkitchenBench();
    for (int slot = 0; slot < 4; slot++) {
      int s = slot;
      String told = "Promise 8: SLOT " + slot + " ";
      check.due(told + "to 0 each, the smallest; 3 at first", 3, () -> x.weights(s, 0, 0, 0));
      check.due(told + "to 9 each, the largest; a sum of 0", 0, () -> x.weights(s, 9, 9, 9));
      check.due(told + "to LOW; a sum of 27", 27, () -> x.weights(s, 9, 0, 0));
      check.due(told + "to MIDDLE", 9, () -> x.weights(s, 0, 8, 0));
      check.due(told + "to HIGH", 8, () -> x.weights(s, 0, 0, 7));
      check.due(told + "back", 7, () -> x.weights(s, 1, 1, 1));
    }
    check.due("Promise 8: nothing is drawn", 1, () -> x.many(6));
    check.due("Promise 8: nothing is KNOWN", 0, () -> x.many(0));
  }

  private static void drawAllowed() {
    TestkitchenBench x = new TestkitchenBench();
    check.due("Promise 9: 1 at first; to the smallest", 1, () -> x.draw(0));
    check.due("Promise 9: DRAW 0", 0, () -> x.many(6));
    check.due("Promise 9: to the largest", 0, () -> x.draw(9999));
    check.due("Promise 9: DRAW 9999", 9999, () -> x.many(6));
    check.due("Promise 9: to the same again", 9999, () -> x.draw(9999));
    check.due("Promise 9: the one before", 9999, () -> x.draw(1));
    x.generate();
    int due = Draws.behind(1, 8);
    check.due("Promise 9: the one that was drawn last", due, () -> x.draw(1));
  }

  // ---- promise 10

  /** SLOT 3 alone, and LOW: two numbers are drawn. */
  private static TestkitchenBench lowAlone() {
    TestkitchenBench x = Benches.onlyWeightsOf(3);
    x.weights(3, 1, 0, 0);
    return x;
  }

  private static void drawWrapsAround() {
    // 0: 1663, 701786. 9999: 4211242, 524545. 19: 9662, 4069365. 20: 10083, 36606.
    int[][] all = {{0, 1786}, {9999, 4545}, {19, 9365}, {20, 6606}};
    TestkitchenBench x = lowAlone();
    for (int[] one : all) {
      x.draw(one[0]);
      x.generate();
      check.due("Promise 10: two numbers drawn from " + one[0], one[1], () -> x.many(6));
    }
  }

  /** What is drawn below 3 is the new DRAW / 100, cut, and then the rest. */
  private static void drawIsCut() {
    TestkitchenBench x = lowAlone();
    for (int last : new int[] {0, 99, 100, 199, 200, 299, 300, 9899, 9900, 9999}) {
      x.draw(Draws.where(d -> Draws.behind(d, 2) == last));
      int due = last / 100 % 3;
      check.due("Promise 10: " + last + " / 100 % 3", due, () -> x.generate());
      check.due("Promise 10: DRAW is then " + last, last, () -> x.many(6));
    }
  }

  /** Each number below the sum: LOW below the first WEIGHT, MIDDLE below two, otherwise HIGH. */
  private static void generateByWeights() {
    int[][] all = {{1, 1, 1}, {9, 9, 9}, {2, 0, 3}, {0, 4, 1}, {3, 2, 0}, {0, 0, 9}, {0, 9, 0},
        {9, 0, 0}};
    for (int slot = 0; slot < 4; slot++) {
      for (int[] w : all) {
        TestkitchenBench x = Benches.onlyWeightsOf(slot);
        x.weights(slot, w[0], w[1], w[2]);
        int sum = w[0] + w[1] + w[2];
        for (int number = 0; number < sum; number++) {
          int part = number < w[0] ? 0 : number < w[0] + w[1] ? 1 : 2;
          int draw = Draws.with(sum, number, VALUES[part], VALUES[part] - 1);
          int due = Benches.only(slot, SMALLEST[part] + VALUES[part] - 1, 0);
          String told = "Promise 10: SLOT " + slot + ", " + number + " below the sum of "
              + w[0] + ", " + w[1] + ", " + w[2];
          x.draw(draw);
          check.due(told, due, () -> x.generate());
          check.due(told + " draws twice", Draws.behind(draw, 2), () -> x.many(6));
        }
      }
    }
  }

  private static void generateEveryValue() {
    for (int slot = 0; slot < 4; slot++) {
      TestkitchenBench x = Benches.onlyWeightsOf(slot);
      for (int part = 0; part < 3; part++) {
        x.weights(slot, part == 0 ? 1 : 0, part == 1 ? 1 : 0, part == 2 ? 1 : 0);
        for (int number = 0; number < VALUES[part]; number++) {
          x.draw(Draws.with(1, 0, VALUES[part], number));
          int value = SMALLEST[part] + number;
          int due = Benches.only(slot, value, 0);
          String told = "Promise 10: the VALUE " + value + " of SLOT " + slot;
          check.due(told, due, () -> x.generate());
        }
      }
    }
  }

  private static void generateWithoutWeights() {
    TestkitchenBench x = lowAlone();
    x.weights(3, 0, 0, 0);
    check.due("Promise 10: each VALUE is 0 with a sum of 0", 0, () -> x.generate());
    check.due("Promise 10: and nothing is drawn", 1, () -> x.many(6));
    check.due("Promise 10: it is TASTED all the same", 1, () -> x.many(0));
    int[] place = {1000, 100, 10, 1};
    for (int slot = 0; slot < 4; slot++) {
      int s = slot;
      TestkitchenBench y = new TestkitchenBench();
      for (int other = 0; other < 4; other++) {
        y.weights(other, 0, 0, other == slot ? 0 : 1);
      }
      String told = "Promise 10: SLOT " + slot + " alone without WEIGHTS";
      check.due(told + " is 0", 0, () -> y.generate() / place[s] % 10);
      check.due(told + ": six are drawn", Draws.behind(1, 6), () -> y.many(6));
    }
  }

  /** SLOT by SLOT, for each first its part and then its VALUE. */
  private static void generateInOrder() {
    TestkitchenBench x = new TestkitchenBench();
    for (int draw = 0; draw < 10000; draw += 101) {
      int due = 0;
      for (int slot = 0; slot < 4; slot++) {
        int part = Draws.behind(draw, 2 * slot + 1) / 100 % 3;
        int number = Draws.behind(draw, 2 * slot + 2) / 100 % VALUES[part];
        due = 10 * due + SMALLEST[part] + number;
      }
      x.draw(draw);
      check.due("Promise 10: generated from the DRAW " + draw, due, () -> x.generate());
      check.due("Promise 10: eight are drawn", Draws.behind(draw, 8), () -> x.many(6));
    }
  }

  private static void generateWhatIsKnown() {
    TestkitchenBench x = Benches.withThreeKnown();
    for (int slot = 0; slot < 4; slot++) {
      x.weights(slot, 0, 0, 0);
    }
    check.due("Promise 10: one that is OLD", 0, () -> x.generate());
    check.due("Promise 10: nothing comes of it", "0 1 1", () -> Benches.kept(x));
    x.weights(1, 0, 0, 1);
    x.draw(Draws.with(1, 0, 3, 1));
    check.due("Promise 10: one that is not NEEDED", 800, () -> x.generate());
    check.due("Promise 10: nothing comes of it, either", 3, () -> x.many(0));
    TestkitchenBench y = Benches.twoInARow();
    y.taste(9000);
    for (int slot = 0; slot < 4; slot++) {
      y.weights(slot, 0, 0, 0);
    }
    check.due("Promise 10: one that is NEEDED", 0, () -> y.generate());
    check.due("Promise 10: is KNOWN, and KEPT", "1 1", () -> Benches.kept(y));
    check.due("Promise 10: by the next number", 0, () -> y.ofKnown(1, 0));
  }

  /** SLOT 2 alone, and HIGH, to make the 90 that is the 40th of Benches.withKnown. */
  private static void toMakeNinety(TestkitchenBench x) {
    for (int slot = 0; slot < 4; slot++) {
      x.weights(slot, 0, 0, slot == 2 ? 1 : 0);
    }
    x.draw(Draws.with(1, 0, 3, 2));
  }

  private static void generateAtTheLimit() {
    TestkitchenBench x = Benches.withKnown(39);
    check.due("Promise 10: 39 are KNOWN", 39, () -> x.many(0));
    toMakeNinety(x);
    check.due("Promise 10: the 40th is generated", 90, () -> x.generate());
    check.due("Promise 10: 40 are KNOWN", 40, () -> x.many(0));
    check.due("Promise 10: it has the number 39", 90, () -> x.ofKnown(39, 0));
    int draw = x.many(6);
    check.due("Promise 10: with 40 none is generated", STATE, () -> x.generate());
    check.due("Promise 10: and nothing is drawn", draw, () -> x.many(6));
    toMakeNinety(x);
    check.due("Promise 10: not even one that is KNOWN", STATE, () -> x.generate());
    TestkitchenBench y = Benches.withKnown(39);
    toMakeNinety(y);
    y.weights(2, 0, 0, 0);
    check.due("Promise 10: with 39 one that is KNOWN", 0, () -> y.generate());
    check.due("Promise 10: there are 39 still", 39, () -> y.many(0));
  }

  // ---- promise 11

  /** VALUE + 1 + what is drawn below 9, less 10 if it is above 9. */
  private static void mutateWrapsAround() {
    for (int slot = 0; slot < 4; slot++) {
      for (int value = 0; value < 10; value++) {
        for (int number = 0; number < 9; number++) {
          TestkitchenBench x = new TestkitchenBench();
          x.taste(Benches.only(slot, value, 4));
          int draw = Draws.with(4, slot, 9, number);
          x.draw(draw);
          int sum = value + 1 + number;
          int due = Benches.only(slot, sum > 9 ? sum - 10 : sum, 4);
          String told = "Promise 11: SLOT " + slot + ", " + value + " + 1 + " + number;
          check.due(told, due, () -> x.mutate());
          check.due(told + " drew twice", Draws.behind(draw, 2), () -> x.many(6));
          check.due(told + " counts, though nothing came of it", 1, () -> x.ofKnown(0, 3));
        }
      }
    }
  }

  private static void mutateTheGreatest() {
    TestkitchenBench x = Benches.withThreeKnown();
    x.mutate();
    check.due("Promise 11: of 7 and 7 the smallest number", "0 1 0", () -> Benches.mutated(x));
    x.mutate();
    check.due("Promise 11: of 6 and 7 the greatest", "0 1 1", () -> Benches.mutated(x));
    x.mutate();
    check.due("Promise 11: of 6 and 6 the smallest number", "0 2 1", () -> Benches.mutated(x));
    TestkitchenBench y = Benches.row();
    y.ask(0, 3, 1, 5);
    y.lead(0, -1, 1);
    y.taste(5);
    y.taste(6);
    y.mutate();
    check.due("Promise 11: of 4 and 37 the greatest", "0 1", () -> Benches.mutated(y));
    y.bad(1, true);
    y.mutate();
    check.due("Promise 11: of 4 and 1 + 3 + 5 - 1", "0 2", () -> Benches.mutated(y));
    y.bad(1, false);
    y.lead(0, 1, -1);
    y.mutate();
    check.due("Promise 11: of 37 and 4 - 2 the greatest", "1 2", () -> Benches.mutated(y));
  }

  private static void mutateDownToNoEnergy() {
    TestkitchenBench x = Benches.withThreeKnown();
    for (int i = 0; i < 14; i++) {
      x.mutate();
    }
    check.due("Promise 11: 7 times each", "0 7 7", () -> Benches.mutated(x));
    check.due("Promise 13: no ENERGY", 0, () -> x.ofKnown(1, 2) + x.ofKnown(2, 2));
    x.mutate();
    x.mutate();
    x.mutate();
    check.due("Promise 11: of 0 and 0 the smallest number", "0 10 7", () -> Benches.mutated(x));
    check.due("Promise 13: 0 at the least", 0, () -> x.ofKnown(1, 2));
  }

  private static void mutateTheOneThatIsKept() {
    TestkitchenBench x = Benches.withThreeKnown();
    x.bad(0, true);
    check.due("Promise 11: the last one alone is KEPT", "0 0 1", () -> Benches.kept(x));
    for (int i = 0; i < 9; i++) {
      x.mutate();
    }
    check.due("Promise 11: it alone, also without ENERGY", "0 0 9", () -> Benches.mutated(x));
    x.bad(0, false);
    check.due("Promise 13: how often it was, as others wake", "0 0 9", () -> Benches.mutated(x));
    x.mutate();
    check.due("Promise 11: one that woke", 1, () -> x.ofKnown(0, 3) + x.ofKnown(1, 3));
    check.due("Promise 11: not that without ENERGY", 9, () -> x.ofKnown(2, 3));
  }

  private static void mutateAtTheLimit() {
    TestkitchenBench none = new TestkitchenBench();
    check.due("Promise 11: none is KEPT", STATE, () -> none.mutate());
    check.due("Promise 11: so nothing is drawn", 1, () -> none.many(6));
    none.taste(0);
    check.due("Promise 11: one is KEPT", false, () -> none.mutate() == 0);
    TestkitchenBench x = Benches.withKnown(39);
    // Of 0080 the EDGES 15 and 16 are its own; it has the greatest ENERGY.
    x.draw(Draws.with(4, 0, 9, 0));
    check.due("Promise 11: with 39 KNOWN", 1080, () -> x.mutate());
    check.due("Promise 11: nothing came of it", 39, () -> x.many(0));
    TestkitchenBench z = Benches.withKnown(39);
    z.draw(Draws.with(4, 2, 9, 0));
    check.due("Promise 11: the 40th is made of another", 90, () -> z.mutate());
    check.due("Promise 11: it has the number 39", 90, () -> z.ofKnown(39, 0));
    check.due("Promise 11: then none more is", STATE, () -> z.mutate());
    TestkitchenBench y = Benches.withKnown(40);
    check.due("Promise 11: with 40 KNOWN", STATE, () -> y.mutate());
    check.due("Promise 11: nothing is drawn", 1, () -> y.many(6));
    check.due("Promise 11: none was MUTATED", false, () -> Benches.mutated(y).contains("1"));
  }

  private static void mutateIsTasted() {
    TestkitchenBench x = new TestkitchenBench();
    x.ask(0, 3, 1, 9);
    x.taste(0);
    x.draw(Draws.with(4, 3, 9, 8));
    check.due("Promise 11: what comes of it", 9, () -> x.mutate());
    check.due("Promise 11: is KNOWN", 9, () -> x.ofKnown(1, 0));
    check.due("Promise 11: and was not MUTATED itself", "1 0", () -> Benches.mutated(x));
    x.draw(Draws.with(4, 3, 9, 0));
    check.due("Promise 11: of 3 and 4 the new one, back to 0", 0, () -> x.mutate());
    check.due("Promise 11: that is KNOWN already", 2, () -> x.many(0));
    check.due("Promise 11: but it counts", "1 1", () -> Benches.mutated(x));
  }
}
