/** Counts and prints the answers that are not due. */
final class Check {
  interface Call {
    Object answer();
  }

  private static final long LONGEST = 240_000;

  private final String suite;
  private int checks = 0;
  private int wrong = 0;

  Check(String suite) {
    this.suite = suite;
    Thread watch = new Thread(this::endAtLast);
    watch.setDaemon(true);
    watch.start();
  }

  /** A call that does not end is wrong, too. */
  private void endAtLast() {
    try {
      Thread.sleep(LONGEST);
    } catch (InterruptedException e) {
      return;
    }
    System.out.println(suite + ": a call does not end");
    Runtime.getRuntime().halt(1);
  }

  /** An answer as text; of a call that throws, the exact class of the exception. */
  static String told(Call call) {
    try {
      return String.valueOf(call.answer());
    } catch (RuntimeException | StackOverflowError e) {
      return "throws." + e.getClass().getSimpleName();
    }
  }

  void due(String what, Object want, Call call) {
    String got = told(call);
    checks++;
    if (!got.equals(String.valueOf(want))) {
      wrong++;
      if (wrong <= 50) {
        System.out.println(suite + ": " + what + " answered " + got + ", due is " + want);
      }
    }
  }

  boolean isRight() {
    return wrong == 0;
  }

  void end() {
    System.out.println(suite + ": " + checks + " checks, " + wrong + " wrong");
    System.exit(isRight() && checks > 0 ? 0 : 1);
  }
}
