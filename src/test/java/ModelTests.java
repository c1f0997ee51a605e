/** Long mixed runs of calls, right and wrong ones, each answered by the program and by PlainBench. */
public final class ModelTests {
  private static final int RUNS = 600;
  private static final int CALLS = 500;
  private static final int[] WILD = {
    -1, -2, 4, 6, 7, 8, 10, 12, 24, 40, 50, 51, 10000, Integer.MAX_VALUE, Integer.MIN_VALUE
  };
  private static final int[] PLACE = {1000, 100, 10, 1};
  private static final Check check = new Check("ModelTests");
  private static int seed = 1;
  private static int wildness = 0;
  private static int fullRuns = 0;

  public static void main(String[] args) {
    for (int run = 0; run < RUNS && check.isRight(); run++) {
      seed = run * 7919 + 1;
      wildness = run % 3 == 0 ? 12 : 1;
      oneRun(run);
    }
    check.due("some runs fill the archive", true, () -> fullRuns > 5);
    check.end();
  }

  private static int below(int n) {
    seed = seed * 1103515245 + 12345;
    return (seed >>> 12) % n;
  }

  /** Mostly a number from low to high, now and then any. */
  private static int number(int low, int high) {
    if (below(100) < wildness) {
      return WILD[below(WILD.length)];
    }
    return low + below(high - low + 1);
  }

  /** In most runs mostly a later node, so that many ends are come to. */
  private static int target(int run, int node) {
    if (run % 4 == 0 || below(25) == 0 || node < 0 || node > 10) {
      return number(-1, 11);
    }
    return below(5) == 0 ? -1 : number(node + 1, Math.min(node + 2, 11));
  }

  /** Cases with few values stand near each other, and are known, or cover anew, more often. */
  private static int test(int run, int call) {
    if (run % 4 == 3 && below(4) > 0) {
      return (below(3) == 0 ? 9 : below(10)) * PLACE[firstSlot(run, call)]
          + (below(2) == 0 ? 0 : below(4) * PLACE[secondSlot(run, call)]);
    }
    return below(3) > 0 ? number(0, 9999) : number(0, 9) * 1000 + below(2) * 100 + below(10);
  }

  private static void oneRun(int run) {
    TestkitchenBench x = new TestkitchenBench();
    PlainBench y = new PlainBench();
    for (int call = 0; call < CALLS; call++) {
      int turn = call % turnOf(run);
      if (turn < 24 && run % 4 == 3) {
        chainCall(run, call, turn, x, y);
      } else if (turn < 24 && run % 4 != 0) {
        oneCall(run, call, turn % 2, turn / 2, x, y);
      } else {
        oneCall(run, call, kindOf(run), number(0, 11), x, y);
      }
    }
    fullRuns += x.many(0) == 40 ? 1 : 0;
  }

  private static int firstSlot(int run, int call) {
    return call / turnOf(run) % 4;
  }

  private static int secondSlot(int run, int call) {
    int turn = call / turnOf(run);
    return (turn + 1 + turn / 4 % 3) % 4;
  }

  /** A program of many ends: each node asks for one value, and leads on, if it is another one. */
  private static void chainCall(int run, int call, int turn, TestkitchenBench x, PlainBench y) {
    int node = turn / 2;
    String told = "chain " + node;
    if (turn % 2 == 0) {
      int slot = node < 9 ? firstSlot(run, call) : secondSlot(run, call);
      int bound = node < 9 ? node : node - 9;
      same(run, call, told, () -> x.ask(node, slot, 1, bound), () -> y.ask(node, slot, 1, bound));
    } else {
      int yes = below(12) == 0 ? number(-1, 11) : -1;
      int no = node == 11 ? -1 : node + 1;
      same(run, call, told, () -> x.lead(node, yes, no), () -> y.lead(node, yes, no));
    }
  }

  /** Behind so many calls the whole program is written anew, node by node. */
  private static int turnOf(int run) {
    return run % 4 == 3 ? 56 : CALLS;
  }

  /** Some runs taste most of the time; most change the program seldom. */
  private static int kindOf(int run) {
    int kind = below(26);
    if (run % 4 == 3 && below(10) < 7) {
      return below(8) == 0 ? 8 + below(2) : 10;
    }
    return kind < 3 && below(3) > 0 || below(10) < run % 5 ? 8 + below(3) : kind;
  }

  private static void same(int run, int call, String what, Check.Call program, Check.Call model) {
    check.due("run " + run + " call " + call + " " + what, Check.told(model), program);
  }

  private static void oneCall(int run, int call, int kind, int node,
      TestkitchenBench x, PlainBench y) {
    int test = test(run, call);
    int what = number(0, 7);
    String told = kind + " test " + test + " node " + node + " what " + what;
    switch (kind) {
      case 0: {
        int slot = number(0, 3);
        int how = number(0, 2);
        int bound = number(0, 9);
        same(run, call, told, () -> x.ask(node, slot, how, bound),
            () -> y.ask(node, slot, how, bound));
        break;
      }
      case 1: {
        int yes = target(run, node);
        int no = target(run, node);
        same(run, call, told, () -> x.lead(node, yes, no), () -> y.lead(node, yes, no));
        break;
      }
      case 2: {
        boolean isBad = below(run % 4 == 3 || node == 0 ? 12 : 4) == 0;
        same(run, call, told, () -> x.bad(node, isBad), () -> y.bad(node, isBad));
        break;
      }
      case 3:
        same(run, call, told, () -> x.run(test), () -> y.run(test));
        break;
      case 4: {
        int k = number(0, below(3) == 0 ? 30 : 3);
        same(run, call, told, () -> x.edge(test, k), () -> y.edge(test, k));
        break;
      }
      case 5:
        same(run, call, told, () -> x.covers(test), () -> y.covers(test));
        break;
      case 6: {
        int slot = number(0, 3);
        int most = below(3) == 0 ? 0 : 9;
        int low = number(0, most);
        int middle = number(0, most);
        int high = number(0, most);
        same(run, call, told, () -> x.weights(slot, low, middle, high),
            () -> y.weights(slot, low, middle, high));
        break;
      }
      case 7: {
        int draw = number(0, 9999);
        same(run, call, told, () -> x.draw(draw), () -> y.draw(draw));
        break;
      }
      case 8:
        same(run, call, told, () -> x.generate(), () -> y.generate());
        break;
      case 9:
        same(run, call, told, () -> x.mutate(), () -> y.mutate());
        break;
      case 10:
        same(run, call, told, () -> x.taste(test), () -> y.taste(test));
        break;
      case 11: {
        int known = number(0, 20);
        same(run, call, told, () -> x.ofKnown(known, what), () -> y.ofKnown(known, what));
        break;
      }
      case 12: {
        int edge = number(0, 23);
        int of = number(0, 2);
        same(run, call, told, () -> x.ofEdge(edge, of), () -> y.ofEdge(edge, of));
        break;
      }
      case 13:
        same(run, call, told, () -> x.many(what), () -> y.many(what));
        break;
      case 14:
        same(run, call, told, () -> x.meanEnergy(), () -> y.meanEnergy());
        break;
      default:
        oneLaterCall(run, call, kind, told, test, node, x, y);
    }
  }

  private static void oneLaterCall(int run, int call, int kind, String told, int test, int node,
      TestkitchenBench x, PlainBench y) {
    switch (kind) {
      case 15:
        same(run, call, told, () -> x.shrink(test), () -> y.shrink(test));
        break;
      case 16: {
        int which = number(0, 1);
        int slot = number(0, 3);
        int other = number(0, 3);
        same(run, call, told, () -> x.relation(which, slot, other),
            () -> y.relation(which, slot, other));
        break;
      }
      case 17: {
        int relation = number(0, 5);
        same(run, call, told, () -> x.breaks(relation, test), () -> y.breaks(relation, test));
        break;
      }
      case 18: {
        int relation = number(0, 5);
        same(run, call, told, () -> x.brokenBy(relation), () -> y.brokenBy(relation));
        break;
      }
      case 19:
        same(run, call, told, () -> x.wouldDrop(test), () -> y.wouldDrop(test));
        break;
      case 20: {
        int how = number(0, 2);
        int bound = number(0, 9);
        same(run, call, told, () -> x.otherwise(node, how, bound),
            () -> y.otherwise(node, how, bound));
        break;
      }
      case 21:
        same(run, call, told, () -> x.fewest(), () -> y.fewest());
        break;
      case 22: {
        int edge = number(0, 23);
        same(run, call, told, () -> x.smallest(edge, test), () -> y.smallest(edge, test));
        break;
      }
      case 23: {
        int k = number(1, 50);
        same(run, call, told, () -> x.ahead(k), () -> y.ahead(k));
        break;
      }
      default:
        same(run, call, told, () -> x.digest(), () -> y.digest());
    }
  }
}
