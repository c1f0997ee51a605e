import java.util.function.IntPredicate;

/** What the document says of a DRAW, to find those that draw what a test needs. */
final class Draws {
  private Draws() {
  }

  static int next(int draw) {
    return (draw * 421 + 1663) % 10000;
  }

  static int behind(int draw, int times) {
    int last = draw;
    for (int i = 0; i < times; i++) {
      last = next(last);
    }
    return last;
  }

  /** A DRAW behind which the first number below one bound, and the next below another, are these. */
  static int with(int below, int number, int thenBelow, int thenNumber) {
    return where(d -> next(d) / 100 % below == number
        && behind(d, 2) / 100 % thenBelow == thenNumber);
  }

  static int where(IntPredicate wanted) {
    for (int draw = 0; draw < 10000; draw++) {
      if (wanted.test(draw)) {
        return draw;
      }
    }
    throw new IllegalStateException("there is no such draw");
  }
}
