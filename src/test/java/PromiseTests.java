/** Each promise of the document by hand: ordinary inputs, named edges, wrong inputs. */
public final class PromiseTests {
  private static final String INDEX = "throws.IndexOutOfBoundsException";
  private static final String ARGUMENT = "throws.IllegalArgumentException";
  private static final String STATE = "throws.IllegalStateException";
  private static final int MAX = Integer.MAX_VALUE;
  private static final int MIN = Integer.MIN_VALUE;
  private static final Check check = new Check("PromiseTests");

  public static void main(String[] args) {
    newObject();
    ask();
    lead();
    bad();
    oldOnesWake();
    run();
    edge();
    covers();
    weights();
    draw();
    generate();
    mutate();
    taste();
    fullArchive();
    ofKnown();
    ofEdge();
    many();
    meanEnergy();
    shrink();
    relation();
    breaks();
    brokenBy();
    wouldDrop();
    otherwise();
    fewest();
    smallest();
    ahead();
    digest();
    check.end();
  }

  private static void newObject() {
    TestkitchenBench x = new TestkitchenBench();
    int[] many = {0, 0, 0, 0, 0, 0, 1, 1};
    for (int what = 0; what < 8; what++) {
      int w = what;
      check.due("new many " + what, many[what], () -> x.many(w));
    }
    for (int test = 0; test < 10000; test += 1111) {
      int t = test;
      check.due("new run " + test, 1, () -> x.run(t));
    }
    check.due("new covers", 1, () -> x.covers(0));
    check.due("new generate", 7947, () -> x.generate());
    TestkitchenBench y = new TestkitchenBench();
    check.due("another new many 0", 0, () -> y.many(0));
    check.due("another new many 6", 1, () -> y.many(6));
  }

  private static void ask() {
    int[] place = {1000, 100, 10, 1};
    int[][] due = {{0, 1, 1}, {1, 0, 1}, {1, 1, 0}};
    for (int slot = 0; slot < 4; slot++) {
      for (int how = 0; how < 3; how++) {
        TestkitchenBench x = new TestkitchenBench();
        int s = slot;
        int h = how;
        check.due("ask", 0, () -> x.ask(0, s, h, 5));
        for (int value = 4; value <= 6; value++) {
          int test = 7777 + (value - 7) * place[slot];
          check.due("ask how " + how + " value " + value, due[how][value - 4], () -> x.run(test));
        }
      }
    }
    TestkitchenBench x = new TestkitchenBench();
    check.due("ask node -1", INDEX, () -> x.ask(-1, 0, 0, 0));
    check.due("ask node 12", INDEX, () -> x.ask(12, 0, 3, 10));
    check.due("ask node max", INDEX, () -> x.ask(MAX, 0, 0, 0));
    check.due("ask node min", INDEX, () -> x.ask(MIN, 0, 0, 0));
    check.due("ask slot -1", INDEX, () -> x.ask(0, -1, 0, 0));
    check.due("ask slot 4", INDEX, () -> x.ask(0, 4, -1, -1));
    check.due("ask how -1", ARGUMENT, () -> x.ask(0, 0, -1, 9));
    check.due("ask how 3", ARGUMENT, () -> x.ask(0, 0, 3, 9));
    check.due("ask bound -1", ARGUMENT, () -> x.ask(0, 0, 0, -1));
    check.due("ask bound 10", ARGUMENT, () -> x.ask(0, 0, 0, 10));
    check.due("a wrong ask changes nothing", 1, () -> x.run(0));
    check.due("ask node 11", 0, () -> x.ask(11, 3, 2, 9));
  }

  private static void lead() {
    TestkitchenBench x = new TestkitchenBench();
    x.ask(0, 0, 0, 5);
    check.due("lead", 0, () -> x.lead(0, 3, 11));
    check.due("lead yes", 7, () -> x.run(0));
    check.due("lead no", 23, () -> x.run(5000));
    check.due("lead node -1", INDEX, () -> x.lead(-1, 0, 0));
    check.due("lead node 12", INDEX, () -> x.lead(12, 0, 0));
    check.due("lead yes 12", INDEX, () -> x.lead(0, 12, 0));
    check.due("lead yes -2", INDEX, () -> x.lead(0, -2, 0));
    check.due("lead no 12", INDEX, () -> x.lead(0, 0, 12));
    check.due("lead no -2", INDEX, () -> x.lead(0, 0, -2));
    check.due("lead no min", INDEX, () -> x.lead(0, 0, MIN));
    check.due("a wrong lead changes nothing", 7, () -> x.run(0));
    check.due("lead to the ends", 0, () -> x.lead(0, -1, -1));
    check.due("lead yes to the end", 0, () -> x.run(0));
    TestkitchenBench y = Benches.withThreeKnown();
    check.due("lead wakes none and drops none", 2, () -> y.lead(1, -1, 2));
    check.due("lead away from node 1", 2, () -> y.lead(0, -1, -1));
    check.due("lead: 0 and 2 cover {0}, 1 {1}", 0, () -> y.ofKnown(0, 1));
  }

  private static void bad() {
    TestkitchenBench x = Benches.twoInARow();
    check.due("bad", 0, () -> x.bad(1, true));
    check.due("bad run", 101, () -> x.run(0));
    check.due("bad covers", 1, () -> x.covers(0));
    check.due("bad again", 0, () -> x.bad(1, true));
    check.due("not bad", 0, () -> x.bad(1, false));
    check.due("not bad run", 2, () -> x.run(0));
    check.due("bad -1", INDEX, () -> x.bad(-1, true));
    check.due("bad 12", INDEX, () -> x.bad(12, false));
    TestkitchenBench y = Benches.withThreeKnown();
    check.due("bad 0: all have the one failure, the last stays", 1, () -> y.bad(0, true));
    check.due("bad 0: kept", 1, () -> y.ofKnown(2, 1));
    check.due("bad 0 no more", 2, () -> y.bad(0, false));
    check.due("bad 0 no more: 0 wakes, as 1 does not cover 0", 0, () -> y.ofKnown(0, 1));
  }

  private static void oldOnesWake() {
    TestkitchenBench x = new TestkitchenBench();
    x.ask(0, 3, 0, 1);
    x.lead(0, -1, 1);
    x.ask(1, 3, 0, 2);
    x.taste(0);
    x.taste(1);
    x.taste(2);
    check.due("three ends", 3, () -> x.many(1));
    check.due("0 goes as 1 does", 2, () -> x.ask(0, 0, 0, 0));
    check.due("only the last stays", 1, () -> x.lead(0, -1, -1));
    check.due("the last stays", 1, () -> x.ofKnown(2, 1));
    check.due("the first that is needed wakes", 2, () -> x.ask(0, 3, 0, 2));
    check.due("0 woke", 1, () -> x.ofKnown(0, 1));
    check.due("1 is not needed then", 0, () -> x.ofKnown(1, 1));
    check.due("2 stayed", 1, () -> x.ofKnown(2, 1));
    check.due("the same question again changes nothing", 2, () -> x.ask(0, 3, 0, 2));
  }

  private static void run() {
    TestkitchenBench x = Benches.twoInARow();
    check.due("run 0", 2, () -> x.run(0));
    check.due("run 9999", 3, () -> x.run(9999));
    check.due("run -1", ARGUMENT, () -> x.run(-1));
    check.due("run 10000", ARGUMENT, () -> x.run(10000));
    check.due("run min", ARGUMENT, () -> x.run(MIN));
    check.due("run max", ARGUMENT, () -> x.run(MAX));
    x.lead(1, 0, -1);
    check.due("run for ever", 112, () -> x.run(0));
    check.due("run to the end", 3, () -> x.run(900));
    x.bad(0, true);
    check.due("run into the bad 0 at once", 100, () -> x.run(900));
    check.due("no edge then", 0, () -> x.covers(900));
    check.due("no first edge then", INDEX, () -> x.edge(900, 0));
    x.bad(0, false);
    x.bad(11, true);
    x.lead(1, 11, -1);
    check.due("run into 11", 111, () -> x.run(0));
    check.due("runs make nothing known", 0, () -> x.many(0));
  }

  private static void edge() {
    TestkitchenBench x = Benches.twoInARow();
    check.due("edge 0", 1, () -> x.edge(9000, 0));
    check.due("edge 1", 2, () -> x.edge(9000, 1));
    check.due("edge 2", INDEX, () -> x.edge(9000, 2));
    check.due("edge -1", INDEX, () -> x.edge(9000, -1));
    check.due("edge min", INDEX, () -> x.edge(9000, MIN));
    check.due("edge max", INDEX, () -> x.edge(9000, MAX));
    check.due("edge of no case first", ARGUMENT, () -> x.edge(10000, -1));
    check.due("edge of case -1", ARGUMENT, () -> x.edge(-1, 0));
    x.lead(1, 0, 0);
    check.due("the 30th edge", 3, () -> x.edge(900, 29));
    check.due("the 29th edge", 0, () -> x.edge(900, 28));
    check.due("no 31st edge", INDEX, () -> x.edge(900, 30));
  }

  private static void covers() {
    TestkitchenBench x = Benches.twoInARow();
    check.due("covers", 2, () -> x.covers(9000));
    x.lead(1, 0, 2);
    check.due("covers each once", 2, () -> x.covers(0));
    check.due("covers three", 3, () -> x.covers(900));
    check.due("covers -1", ARGUMENT, () -> x.covers(-1));
    check.due("covers 10000", ARGUMENT, () -> x.covers(10000));
  }

  private static void weights() {
    TestkitchenBench x = new TestkitchenBench();
    check.due("weights", 3, () -> x.weights(3, 9, 8, 7));
    check.due("weights before", 24, () -> x.weights(3, 0, 0, 0));
    check.due("weights of 0", 0, () -> x.weights(3, 1, 0, 0));
    check.due("weights of another slot", 3, () -> x.weights(2, 1, 0, 0));
    check.due("weights slot -1", INDEX, () -> x.weights(-1, 0, 0, 0));
    check.due("weights slot 4 first", INDEX, () -> x.weights(4, 10, 0, 0));
    check.due("weights low -1", ARGUMENT, () -> x.weights(0, -1, 0, 0));
    check.due("weights low 10", ARGUMENT, () -> x.weights(0, 10, 0, 0));
    check.due("weights middle -1", ARGUMENT, () -> x.weights(0, 0, -1, 0));
    check.due("weights middle 10", ARGUMENT, () -> x.weights(0, 0, 10, 0));
    check.due("weights high -1", ARGUMENT, () -> x.weights(0, 0, 0, -1));
    check.due("weights high 10", ARGUMENT, () -> x.weights(0, 0, 0, 10));
    check.due("wrong weights change nothing", 3, () -> x.weights(0, 1, 1, 1));
  }

  private static void draw() {
    TestkitchenBench x = new TestkitchenBench();
    check.due("draw", 1, () -> x.draw(9999));
    check.due("draw before", 9999, () -> x.draw(0));
    check.due("draw of 0", 0, () -> x.draw(77));
    check.due("draw -1", ARGUMENT, () -> x.draw(-1));
    check.due("draw 10000", ARGUMENT, () -> x.draw(10000));
    check.due("a wrong draw changes nothing", 77, () -> x.many(6));
  }

  private static void generate() {
    TestkitchenBench x = new TestkitchenBench();
    check.due("generate", 7947, () -> x.generate());
    check.due("generate drew eight times", 9945, () -> x.many(6));
    check.due("generate tasted", 1, () -> x.many(0));
    check.due("generate made it known", 7947, () -> x.ofKnown(0, 0));
    for (int slot = 0; slot < 4; slot++) {
      x.weights(slot, 0, 0, 0);
    }
    check.due("generate without weights", 0, () -> x.generate());
    check.due("nothing drawn without weights", 9945, () -> x.many(6));
    check.due("nothing came of it", 1, () -> x.many(0));
    // DRAW goes 2084, 9027, 2030, 6293, 1016, 9399: 2, 2 and 1 below the sums of 9.
    x.draw(1);
    x.weights(0, 2, 1, 6);
    x.weights(1, 2, 0, 7);
    x.weights(2, 9, 0, 0);
    check.due("generate by borders", 5900, () -> x.generate());
    check.due("generate drew six times", 9399, () -> x.draw(1));
    x.weights(0, 3, 1, 5);
    check.due("generate low", 900, () -> x.generate());
    x.draw(1);
    x.weights(0, 0, 2, 7);
    check.due("generate high", 7900, () -> x.generate());
    check.due("no more was known", 1, () -> x.many(0));
  }

  private static void mutate() {
    TestkitchenBench x = new TestkitchenBench();
    check.due("mutate none", STATE, () -> x.mutate());
    check.due("a refused mutate draws nothing", 1, () -> x.many(6));
    TestkitchenBench y = Benches.withThreeKnown();
    check.due("mutate 9000 at slot 0 by 1", 0, () -> y.mutate());
    check.due("mutate drew twice", 9027, () -> y.many(6));
    check.due("mutated once", 1, () -> y.ofKnown(1, 3));
    check.due("less energy", 6, () -> y.ofKnown(1, 2));
    check.due("it was known", 3, () -> y.many(0));
    // 2030 / 100 = 20: slot 0 again; 6293 / 100 = 62: 8 more than 1, of 900's 0.
    check.due("mutate 900 then, the greatest now", 9900, () -> y.mutate());
    check.due("mutated once, too", 1, () -> y.ofKnown(2, 3));
    check.due("not needed", 3, () -> y.many(0));
    y.bad(0, true);
    y.bad(0, false);
    check.due("how often is kept while old", 1, () -> y.ofKnown(1, 3));
    for (int i = 0; i < 30; i++) {
      y.mutate();
    }
    check.due("energy ends at 0", 0.0, () -> y.meanEnergy());
    check.due("the second one till it has no energy", 7, () -> y.ofKnown(2, 3));
    check.due("then the smallest number", 25, () -> y.ofKnown(1, 3));
  }

  private static void taste() {
    TestkitchenBench x = Benches.twoInARow();
    check.due("taste 0", 0, () -> x.taste(0));
    check.due("taste 0 again", 0, () -> x.taste(0));
    check.due("taste the like", -1, () -> x.taste(4400));
    check.due("taste 9000", 1, () -> x.taste(9000));
    check.due("both kept", 2, () -> x.many(1));
    check.due("taste 900", 2, () -> x.taste(900));
    check.due("0 is old", 0, () -> x.ofKnown(0, 1));
    check.due("two kept", 2, () -> x.many(1));
    check.due("taste an old one", 0, () -> x.taste(0));
    check.due("it stays old", 0, () -> x.ofKnown(0, 1));
    check.due("taste 9900", -1, () -> x.taste(9900));
    check.due("taste -1", ARGUMENT, () -> x.taste(-1));
    check.due("taste 10000", ARGUMENT, () -> x.taste(10000));
    check.due("three known", 3, () -> x.many(0));
    TestkitchenBench y = new TestkitchenBench();
    y.taste(0);
    y.bad(0, true);
    check.due("the failure is had by the known one", -1, () -> y.taste(1));
    y.bad(0, false);
    y.ask(0, 0, 0, 5);
    y.lead(0, 1, 1);
    y.ask(1, 0, 0, 5);
    y.taste(9000);
    y.bad(1, true);
    check.due("no edge, but a failure", 101, () -> y.run(0));
    y.bad(0, true);
    check.due("one failure, no edge: one kept", 1, () -> y.many(1));
  }

  private static void fullArchive() {
    TestkitchenBench x = Benches.withFortyKnown();
    int draw = x.many(6);
    check.due("forty known", 40, () -> x.many(0));
    check.due("full taste of no case", ARGUMENT, () -> x.taste(-1));
    check.due("full taste of a new one", STATE, () -> x.taste(5555));
    check.due("full taste of a known one", STATE, () -> x.taste(0));
    check.due("full generate", STATE, () -> x.generate());
    check.due("full mutate", STATE, () -> x.mutate());
    check.due("a refused call draws nothing", draw, () -> x.many(6));
    check.due("known 39", 0, () -> x.ofKnown(39, 3));
    check.due("known 40", INDEX, () -> x.ofKnown(40, 1));
    check.due("full ahead", true, () -> x.ahead(50) > 0);
    check.due("full fewest", -1, () -> x.fewest());
    check.due("full ask", true, () -> x.ask(11, 1, 0, 5) > 0);
    int before = x.lead(8, 11, 9);
    check.due("kept are counted alike", before, () -> x.many(1));
    TestkitchenBench y = Benches.withFortyKnown();
    for (int node = 0; node < 2; node++) {
      y.lead(node, -1, -1);
    }
    y.ask(0, 1, 1, 5);
    y.ask(1, 0, 1, 7);
    y.lead(0, 1, -1);
    // Of the known ones 500 covers {0,3}; 7500 {0,2} would be new.
    check.due("a new one at the full archive", 0, () -> y.wouldDrop(7500));
    check.due("that makes nothing known", 40, () -> y.many(0));
    check.due("nothing came of it in fact", STATE, () -> y.taste(7500));
  }

  private static void ofKnown() {
    TestkitchenBench x = Benches.withThreeKnown();
    int[][] due = {{0, 0, 0, 0, 2, 2, 0}, {9000, 1, 7, 0, 2, 2, 2}, {900, 1, 7, 0, 3, 2, 2}};
    for (int known = 0; known < 3; known++) {
      for (int what = 0; what < 7; what++) {
        int k = known;
        int w = what;
        check.due("ofKnown " + known + " " + what, due[known][what], () -> x.ofKnown(k, w));
      }
    }
    check.due("ofKnown -1", INDEX, () -> x.ofKnown(-1, 0));
    check.due("ofKnown 3 first", INDEX, () -> x.ofKnown(3, 7));
    check.due("ofKnown what -1", ARGUMENT, () -> x.ofKnown(0, -1));
    check.due("ofKnown what 7", ARGUMENT, () -> x.ofKnown(0, 7));
    x.bad(1, true);
    // 0 and 2 cover {0}, 1 covers {1}, all with the failure 101.
    check.due("the result now", 101, () -> x.ofKnown(0, 4));
    check.due("covers now", 1, () -> x.ofKnown(0, 5));
    check.due("a shared failure gives nothing", 4, () -> x.ofKnown(1, 2));
    x.bad(0, true);
    check.due("a failure alone gives 5", 6, () -> x.ofKnown(2, 2));
    check.due("an edge alone: none", 0, () -> x.ofKnown(2, 6));
  }

  private static void ofEdge() {
    TestkitchenBench x = Benches.withThreeKnown();
    int[][] due = {{1, 2, 0}, {1, 1, 1}, {1, 2, 0}, {1, 1, 2}, {0, 0, -1}};
    for (int edge = 0; edge < 5; edge++) {
      for (int what = 0; what < 3; what++) {
        int e = edge;
        int w = what;
        check.due("ofEdge " + edge + " " + what, due[edge][what], () -> x.ofEdge(e, w));
      }
    }
    check.due("ofEdge 23", -1, () -> x.ofEdge(23, 2));
    check.due("ofEdge -1", INDEX, () -> x.ofEdge(-1, 0));
    check.due("ofEdge 24 first", INDEX, () -> x.ofEdge(24, 3));
    check.due("ofEdge what -1", ARGUMENT, () -> x.ofEdge(0, -1));
    check.due("ofEdge what 3", ARGUMENT, () -> x.ofEdge(0, 3));
  }

  private static void many() {
    TestkitchenBench x = Benches.withThreeKnown();
    x.relation(1, 0, 0);
    x.draw(4321);
    int[] due = {3, 2, 4, 4, 0, 1, 4321, 2};
    for (int what = 0; what < 8; what++) {
      int w = what;
      check.due("many " + what, due[what], () -> x.many(w));
    }
    check.due("many -1", ARGUMENT, () -> x.many(-1));
    check.due("many 8", ARGUMENT, () -> x.many(8));
    x.lead(1, 5, -1);
    x.lead(5, 7, 11);
    x.lead(11, 0, 9);
    x.lead(3, 4, 4);
    x.bad(5, true);
    check.due("many 7 goes over bad nodes", 6, () -> x.many(7));
    check.due("many 4", 1, () -> x.many(4));
    x.bad(0, true);
    check.due("many 2 with a bad 0", 0, () -> x.many(2));
    check.due("many 7 with a bad 0", 6, () -> x.many(7));
    x.bad(0, false);
    x.ask(1, 1, 0, 0);
    check.due("many 3 counts old ones, too", x.many(2), () -> x.many(3));
  }

  private static void meanEnergy() {
    TestkitchenBench x = new TestkitchenBench();
    check.due("mean of none", 0.0, () -> x.meanEnergy());
    TestkitchenBench y = Benches.withThreeKnown();
    check.due("mean of 7 and 7", 7.0, () -> y.meanEnergy());
    y.mutate();
    check.due("mean of 6 and 7", 6.5, () -> y.meanEnergy());
    TestkitchenBench z = new TestkitchenBench();
    z.ask(0, 3, 0, 1);
    z.lead(0, -1, 1);
    z.ask(1, 3, 0, 2);
    z.taste(0);
    z.taste(1);
    z.taste(2);
    z.mutate();
    check.due("mean of 3, 4 and 4, not cut", 11.0 / 3, () -> z.meanEnergy());
  }

  private static void shrink() {
    TestkitchenBench x = new TestkitchenBench();
    x.ask(0, 1, 1, 0);
    x.lead(0, 2, 1);
    x.ask(1, 0, 2, 5);
    x.lead(1, 2, -1);
    x.bad(2, true);
    check.due("shrink again and again", 0, () -> x.shrink(9999));
    check.due("shrink where slot 1 is 0", 0, () -> x.shrink(9099));
    check.due("shrink without failure", ARGUMENT, () -> x.shrink(5999));
    check.due("shrink -1", ARGUMENT, () -> x.shrink(-1));
    check.due("shrink 10000", ARGUMENT, () -> x.shrink(10000));
    TestkitchenBench y = new TestkitchenBench();
    y.ask(0, 0, 2, 4);
    y.lead(0, 1, 2);
    y.bad(1, true);
    y.bad(2, true);
    check.due("shrink keeps its failure", 5000, () -> y.shrink(9999));
    check.due("shrink the other failure", 0, () -> y.shrink(4999));
    check.due("shrink the least", 5000, () -> y.shrink(5000));
    y.bad(1, false);
    y.lead(1, 1, 1);
    check.due("shrink a run for ever", 5000, () -> y.shrink(9876));
    y.bad(0, true);
    check.due("shrink at the bad 0", 0, () -> y.shrink(9876));
    check.due("shrink makes nothing known", 0, () -> y.many(0));
  }

  private static void relation() {
    TestkitchenBench x = new TestkitchenBench();
    check.due("relation kind -1", ARGUMENT, () -> x.relation(-1, 4, 4));
    check.due("relation kind 2", ARGUMENT, () -> x.relation(2, 0, 1));
    check.due("relation of the same", ARGUMENT, () -> x.relation(0, 2, 2));
    check.due("relation of the same wrong one", ARGUMENT, () -> x.relation(0, 4, 4));
    check.due("relation slot -1", INDEX, () -> x.relation(0, -1, 0));
    check.due("relation slot 4", INDEX, () -> x.relation(0, 4, 0));
    check.due("relation other -1", INDEX, () -> x.relation(0, 0, -1));
    check.due("relation other 4", INDEX, () -> x.relation(0, 0, 4));
    check.due("relation 1 slot 4", INDEX, () -> x.relation(1, 4, 0));
    check.due("relation 1 slot -1", INDEX, () -> x.relation(1, -1, -1));
    check.due("none yet", 0, () -> x.many(5));
    for (int i = 0; i < 6; i++) {
      int n = i;
      check.due("relation " + i, i, () -> x.relation(n % 2, 1, n % 2 == 0 ? 3 : MAX - n));
    }
    check.due("relation 1 of the same slot", STATE, () -> x.relation(1, 2, 2));
    check.due("relation 6", STATE, () -> x.relation(0, 0, 1));
    check.due("relation 6 of kind 2 first", ARGUMENT, () -> x.relation(2, 0, 1));
    check.due("relation 6 of slot 4 first", INDEX, () -> x.relation(0, 4, 1));
    check.due("six", 6, () -> x.many(5));
  }

  private static void breaks() {
    TestkitchenBench x = new TestkitchenBench();
    x.ask(0, 0, 0, 5);
    x.relation(0, 0, 3);
    x.relation(1, 0, 0);
    x.relation(0, 3, 0);
    x.relation(1, 3, 0);
    check.due("breaks by exchange", true, () -> x.breaks(0, 9));
    check.due("breaks by exchange back", true, () -> x.breaks(2, 9000));
    check.due("keeps at exchange", false, () -> x.breaks(0, 4994));
    check.due("breaks by 1 more", true, () -> x.breaks(1, 4999));
    check.due("keeps at 1 more", false, () -> x.breaks(1, 3999));
    check.due("another slot", false, () -> x.breaks(3, 4999));
    x.ask(0, 0, 1, 9);
    check.due("8 becomes 9", true, () -> x.breaks(1, 8000));
    check.due("9 stays 9", false, () -> x.breaks(1, 9999));
    check.due("breaks -1", INDEX, () -> x.breaks(-1, 0));
    check.due("breaks 4 first", INDEX, () -> x.breaks(4, -1));
    check.due("breaks no case", ARGUMENT, () -> x.breaks(0, 10000));
    check.due("breaks case -1", ARGUMENT, () -> x.breaks(0, -1));
    x.bad(0, true);
    check.due("the same failure", false, () -> x.breaks(1, 8000));
  }

  private static void brokenBy() {
    TestkitchenBench x = Benches.withThreeKnown();
    x.relation(0, 0, 1);
    x.relation(1, 1, 0);
    x.relation(0, 1, 2);
    check.due("broken by 9000", 1, () -> x.brokenBy(0));
    check.due("broken by none", -1, () -> x.brokenBy(1));
    check.due("broken by 900", 2, () -> x.brokenBy(2));
    x.ask(1, 1, 0, 1);
    check.due("broken by the old one, too", 0, () -> x.brokenBy(1));
    check.due("brokenBy -1", INDEX, () -> x.brokenBy(-1));
    check.due("brokenBy 3", INDEX, () -> x.brokenBy(3));
    check.due("brokenBy max", INDEX, () -> x.brokenBy(MAX));
  }

  private static void wouldDrop() {
    TestkitchenBench x = Benches.twoInARow();
    check.due("would drop none of none", 0, () -> x.wouldDrop(0));
    x.taste(0);
    x.taste(9000);
    check.due("would drop 0", 1, () -> x.wouldDrop(900));
    check.due("would drop, too: 9900 covers {1,3}", 1, () -> x.wouldDrop(9900));
    check.due("nothing of a known one", -1, () -> x.wouldDrop(9000));
    check.due("nothing of the like", -1, () -> x.wouldDrop(4444));
    check.due("nothing is changed", 2, () -> x.many(1));
    check.due("nothing is known", 2, () -> x.many(0));
    x.taste(900);
    check.due("nothing of the old one", -1, () -> x.wouldDrop(0));
    check.due("nothing of one not needed", -1, () -> x.wouldDrop(9900));
    check.due("wouldDrop -1", ARGUMENT, () -> x.wouldDrop(-1));
    check.due("wouldDrop 10000", ARGUMENT, () -> x.wouldDrop(10000));
  }

  private static void otherwise() {
    TestkitchenBench x = Benches.withThreeKnown();
    check.due("otherwise the same", 0, () -> x.otherwise(1, 0, 5));
    check.due("otherwise 1 never smaller", 2, () -> x.otherwise(1, 0, 0));
    check.due("otherwise 1 greater", 3, () -> x.otherwise(1, 2, 4));
    check.due("otherwise 0: not the results", 0, () -> x.otherwise(0, 0, 0));
    check.due("otherwise elsewhere", 0, () -> x.otherwise(7, 1, 0));
    check.due("nothing is changed", 2, () -> x.run(0));
    check.due("otherwise -1", INDEX, () -> x.otherwise(-1, 0, 0));
    check.due("otherwise 12 first", INDEX, () -> x.otherwise(12, 3, 10));
    check.due("otherwise how -1", ARGUMENT, () -> x.otherwise(0, -1, 0));
    check.due("otherwise how 3", ARGUMENT, () -> x.otherwise(0, 3, 0));
    check.due("otherwise bound -1", ARGUMENT, () -> x.otherwise(0, 0, -1));
    check.due("otherwise bound 10", ARGUMENT, () -> x.otherwise(0, 0, 10));
    check.due("still nothing is changed", 3, () -> x.run(999));
  }

  private static void fewest() {
    TestkitchenBench x = new TestkitchenBench();
    check.due("fewest of none", 0, () -> x.fewest());
    x.taste(0);
    check.due("fewest of one", 1, () -> x.fewest());
    x.bad(0, true);
    check.due("fewest of no edges", 0, () -> x.fewest());
    TestkitchenBench y = Benches.withThreeKnown();
    check.due("fewest of three", 2, () -> y.fewest());
    TestkitchenBench z = new TestkitchenBench();
    Benches.chain(z, 3, 2);
    Benches.tasteChain(z, 3, 2, 40);
    check.due("thirteen known", 13, () -> z.many(0));
    check.due("fewest of thirteen", -1, () -> z.fewest());
    TestkitchenBench w = new TestkitchenBench();
    Benches.chain(w, 3, 2);
    for (int test = 0; test < 9; test++) {
      w.taste(test);
    }
    w.taste(9);
    w.taste(19);
    w.taste(29);
    check.due("twelve known", 12, () -> w.many(0));
    check.due("fewest of twelve", 12, () -> w.fewest());
    w.lead(11, 1, -1);
    w.ask(0, 0, 1, 9);
    check.due("fewest, changed", 11, () -> w.fewest());
  }

  private static void smallest() {
    TestkitchenBench x = new TestkitchenBench();
    x.ask(0, 2, 2, 6);
    x.lead(0, 1, -1);
    x.ask(1, 3, 1, 8);
    check.due("smallest 0", 5670, () -> x.smallest(0, 5600));
    check.due("smallest 1", 5600, () -> x.smallest(1, 5699));
    check.due("smallest 2", 5678, () -> x.smallest(2, 5612));
    check.due("smallest 3", 9970, () -> x.smallest(3, 9999));
    check.due("smallest 4", -1, () -> x.smallest(4, 0));
    check.due("smallest -1", INDEX, () -> x.smallest(-1, 0));
    check.due("smallest 24 first", INDEX, () -> x.smallest(24, -1));
    check.due("smallest of no case", ARGUMENT, () -> x.smallest(23, 10000));
    check.due("smallest of -1", ARGUMENT, () -> x.smallest(0, -1));
    x.bad(1, true);
    check.due("smallest of a failure", 70, () -> x.smallest(0, 0));
    x.bad(1, false);
    x.ask(0, 2, 1, 9);
    x.ask(1, 3, 1, 9);
    check.due("smallest is the last", 1299, () -> x.smallest(2, 1200));
    x.ask(0, 1, 1, 3);
    check.due("smallest has the same slot 1", -1, () -> x.smallest(0, 1200));
    check.due("smallest has the same slot 1, too", -1, () -> x.smallest(0, 1499));
    x.ask(0, 0, 1, 3);
    check.due("smallest has the same slot 0", -1, () -> x.smallest(0, 2999));
  }

  private static void ahead() {
    TestkitchenBench x = new TestkitchenBench();
    check.due("ahead 1", 1, () -> x.ahead(1));
    check.due("ahead 50", 1, () -> x.ahead(50));
    check.due("ahead draws nothing", 1, () -> x.many(6));
    check.due("ahead 0", ARGUMENT, () -> x.ahead(0));
    check.due("ahead 51", ARGUMENT, () -> x.ahead(51));
    check.due("ahead -1", ARGUMENT, () -> x.ahead(-1));
    Benches.chain(x, 3, 2);
    x.bad(4, true);
    boolean[] seen = new boolean[200];
    TestkitchenBench y = new TestkitchenBench();
    int different = 0;
    for (int k = 1; k <= 12; k++) {
      int result = x.run(y.generate());
      different += seen[result] ? 0 : 1;
      seen[result] = true;
      int kk = k;
      check.due("ahead " + k, different, () -> x.ahead(kk));
    }
    check.due("there are failures and edges ahead", true, () -> x.ahead(50) > 3);
  }

  private static void digest() {
    check.due("digest, new", 1527246830044034637L, () -> new TestkitchenBench().digest());
    TestkitchenBench x = Benches.withThreeKnown();
    x.relation(0, 0, 1);
    x.relation(1, 2, 0);
    long d = 5740;
    for (int what = 0; what < 8; what++) {
      d = d * 31 + x.many(what);
    }
    for (int known = 0; known < 3; known++) {
      for (int what = 0; what < 7; what++) {
        d = d * 31 + x.ofKnown(known, what);
      }
    }
    for (int edge = 0; edge < 24; edge++) {
      for (int what = 0; what < 3; what++) {
        d = d * 31 + x.ofEdge(edge, what);
      }
    }
    d = d * 31 + x.brokenBy(0);
    d = d * 31 + x.brokenBy(1);
    d = d * 31 + x.fewest();
    d = d * 31 + x.ahead(5);
    for (int test = 0; test < 10; test++) {
      d = d * 31 + x.run(test);
      d = d * 31 + x.covers(test);
      d = d * 31 + x.wouldDrop(test);
    }
    check.due("digest", d, () -> x.digest());
    check.due("digest changes nothing", d, () -> x.digest());
    digestLooksFiveAhead();
  }

  /** From a DRAW from which the fourth, the fifth and the sixth case have results of their own. */
  private static void digestLooksFiveAhead() {
    TestkitchenBench y = new TestkitchenBench();
    Benches.chain(y, 3, 2);
    boolean different = false;
    for (int draw = 0; draw < 80 && !different; draw++) {
      y.draw(draw);
      different = y.ahead(4) < y.ahead(5) && y.ahead(5) < y.ahead(6);
    }
    check.due("ahead grows", true, () -> y.ahead(4) < y.ahead(5) && y.ahead(5) < y.ahead(6));
    long d = 5740;
    for (int what = 0; what < 8; what++) {
      d = d * 31 + y.many(what);
    }
    for (int edge = 0; edge < 24; edge++) {
      d = ((d * 31) * 31) * 31 - 1;
    }
    d = (d * 31 + 0) * 31 + y.ahead(5);
    for (int test = 0; test < 10; test++) {
      d = ((d * 31 + y.run(test)) * 31 + y.covers(test)) * 31;
    }
    check.due("digest with five ahead", d, () -> y.digest());
  }
}
