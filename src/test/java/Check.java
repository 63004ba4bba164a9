import java.util.function.Supplier;

/** Counts the answers that are not as due, and ends a test with exit code 1 if there was one. */
final class Check {
  private final String name;
  private int right;
  private int wrong;

  Check(String name) {
    this.name = name;
  }

  void due(String call, long want, long got) {
    tell(call, got == want, "answered " + got + ", due is " + want);
  }

  void due(String call, char want, char got) {
    tell(call, got == want, "answered '" + got + "', due is '" + want + "'");
  }

  void due(String call, boolean want, boolean got) {
    tell(call, got == want, "answered " + got + ", due is " + want);
  }

  void due(String call, String want, String got) {
    tell(call, got.equals(want), "answered " + got + ", due is " + want);
  }

  void due(String call, double want, double got) {
    tell(call, Double.compare(got, want) == 0, "answered " + got + ", due is " + want);
  }

  /** The very class is due, none below it, and from the class's own throw: what others throw is never an answer. */
  void dueThrow(String call, Class<? extends RuntimeException> want, Supplier<Object> made) {
    String got;
    try {
      got = "answered " + made.get();
    } catch (RuntimeException e) {
      got = e.getClass() == want && isOwnThrow(e) ? null : "threw " + thrown(e);
    }
    tell(call, got == null, got + ", due is a throw of " + want.getName());
  }

  static String thrown(Throwable e) {
    return e.getClass().getName() + (isOwnThrow(e) ? "" : " at " + e.getStackTrace()[0]);
  }

  private static boolean isOwnThrow(Throwable e) {
    StackTraceElement[] trace = e.getStackTrace();
    return trace.length == 0 || trace[0].getClassName().matches("TallowIndex.*|Model");
  }

  void tell(String call, boolean isRight, String otherwise) {
    if (isRight) {
      right++;
    } else {
      wrong++;
      System.out.println(name + ": " + call + " " + otherwise);
    }
  }

  void end() {
    System.out.println(name + ": " + right + " answers as due, " + wrong + " not");
    if (wrong != 0 || right == 0) System.exit(1);
  }
}
