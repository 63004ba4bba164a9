/** Promises 11 to 14 and 36: write, segments, size, merge and removedShare. */
public final class SegmentsTest {
  private static final Check check = new Check("SegmentsTest");

  public static void main(String[] args) {
    writeMakesASegment();
    sizeCountsTheRemoved();
    mergeDropsTheRemoved();
    mergeOfNothingLeavesNone();
    mergeRefuses();
    shareOfTheRemoved();
    check.end();
  }

  /** Segments of two documents each: 0 and 1, 2 and 3, and so on. */
  private static TallowIndex withSegments(int count) {
    TallowIndex x = new TallowIndex();
    for (int i = 0; i < count; i++) {
      Store.put(x, 1);
      Store.put(x, 2);
      x.write();
    }
    return x;
  }

  private static void writeMakesASegment() {
    TallowIndex x = new TallowIndex();
    for (int i = 0; i < 3; i++) Store.put(x, i);
    x.remove(1);
    check.due("write() leaves out the removed one", 2, x.write());
    check.due("segments()", 1, x.segments());
    check.due("size(0)", 2, x.size(0));
    check.due("write() of nothing", 0, x.write());
    check.due("segments() as before", 1, x.segments());
    Store.put(x, 4);
    x.remove(3);
    check.due("write() of a removed one alone", 0, x.write());
    check.due("segments() as before", 1, x.segments());
    Store.put(x, 5);
    x.open(0, -1);
    check.due("write() leaves the open text", 1, x.write());
    check.due("segments() behind the others", 2, x.segments());
    check.due("size(1)", 1, x.size(1));
    check.due("the open text is still open", 5, x.close());
  }

  private static void sizeCountsTheRemoved() {
    TallowIndex x = withSegments(1);
    x.remove(0);
    check.due("size with a removed one", 2, x.size(0));
    x.remove(1);
    check.due("size with all removed", 2, x.size(0));
    check.due("segments with all removed", 1, x.segments());
    check.dueThrow("size(1)", IndexOutOfBoundsException.class, () -> x.size(1));
    check.dueThrow("size(-1)", IndexOutOfBoundsException.class, () -> x.size(-1));
  }

  private static void mergeDropsTheRemoved() {
    TallowIndex x = withSegments(4);
    x.remove(2);
    x.remove(5);
    x.remove(6);
    check.due("merge(1)", 2, x.merge(1));
    check.due("segments()", 3, x.segments());
    check.due("size(0) stays", 2, x.size(0));
    check.due("size(1) is merged", 2, x.size(1));
    check.due("size(2) moved up", 2, x.size(2));
    check.due("a dropped one is removed", 'r', x.state(2));
    check.due("a merged one is in a segment", 's', x.state(3));
    x.remove(3);
    check.due("size(1) after a removal", 2, x.size(1));
    check.due("merge(0) drops one more", 1, x.merge(0));
    check.due("size(0)", 3, x.size(0));
    check.due("merge(0) drops the last", 1, x.merge(0));
    check.due("size(0) of all that stay", 4, x.size(0));
    check.due("segments()", 1, x.segments());
  }

  private static void mergeOfNothingLeavesNone() {
    TallowIndex x = withSegments(3);
    for (int i = 0; i < 4; i++) x.remove(i);
    check.due("merge(0) of removed ones", 4, x.merge(0));
    check.due("segments()", 1, x.segments());
    check.due("size(0) is the third", 2, x.size(0));
    check.due("removedShare()", 0.0, x.removedShare());
    Store.put(x, 3);
    x.write();
    check.due("size(1) is the new one", 1, x.size(1));
  }

  private static void mergeRefuses() {
    TallowIndex x = withSegments(2);
    check.dueThrow("merge(1), no next one", IndexOutOfBoundsException.class, () -> x.merge(1));
    check.dueThrow("merge(2)", IndexOutOfBoundsException.class, () -> x.merge(2));
    check.dueThrow("merge(-1)", IndexOutOfBoundsException.class, () -> x.merge(-1));
    check.dueThrow("merge(MAX)", IndexOutOfBoundsException.class, () -> x.merge(Integer.MAX_VALUE));
    check.due("segments() as before", 2, x.segments());
  }

  private static void shareOfTheRemoved() {
    TallowIndex x = new TallowIndex();
    check.dueThrow("removedShare() of none", ArithmeticException.class, x::removedShare);
    Store.put(x, 1);
    check.dueThrow("removedShare() with a buffer alone", ArithmeticException.class, x::removedShare);
    x.remove(0);
    check.dueThrow("removedShare() with a removed buffer", ArithmeticException.class, x::removedShare);
    for (int i = 0; i < 3; i++) Store.put(x, 1);
    x.write();
    check.due("removedShare() of 0 of 3", 0.0, x.removedShare());
    x.remove(1);
    check.due("removedShare() of 1 of 3", 1f / 3f, x.removedShare());
    Store.put(x, 1);
    x.write();
    check.due("removedShare() of 1 of 4", 0.25, x.removedShare());
    x.merge(0);
    check.due("removedShare() after a merge", 0.0, x.removedShare());
    for (int i = 2; i < 5; i++) x.remove(i);
    check.due("removedShare() of all", 1.0, x.removedShare());
    x.crash();
    check.dueThrow("removedShare() after a crash to nothing", ArithmeticException.class, x::removedShare);
  }
}
