/** Promises 19 to 21 and 37: openView, closeView, seen and meanLength. */
public final class ViewsTest {
  private static final Check check = new Check("ViewsTest");

  public static void main(String[] args) {
    fourViewsAreOpen();
    viewsStayAsTheyWere();
    closingRefuses();
    meanOfTheLengths();
    check.end();
  }

  private static void fourViewsAreOpen() {
    TallowIndex x = new TallowIndex();
    for (int i = 0; i < 4; i++) check.due("openView()", i, x.openView());
    check.dueThrow("a fifth view", IllegalStateException.class, x::openView);
    check.due("closeView(1)", 3, x.closeView(1));
    check.due("a number is not used again", 4, x.openView());
    check.dueThrow("a fifth view again", IllegalStateException.class, x::openView);
    check.due("seen(0)", 0, x.seen(0));
    check.due("closeView(0)", 3, x.closeView(0));
    check.due("closeView(4)", 2, x.closeView(4));
    check.due("closeView(2)", 1, x.closeView(2));
    check.due("closeView(3)", 0, x.closeView(3));
    check.due("openView() after all", 5, x.openView());
    x.crash();
    for (int i = 6; i < 10; i++) check.due("openView() after a crash", i, x.openView());
  }

  private static void viewsStayAsTheyWere() {
    TallowIndex x = new TallowIndex();
    x.ask('w', 1, 0, 0, 1);
    for (int i = 0; i < 3; i++) Store.put(x, 1);
    x.write();
    x.remove(2);
    Store.put(x, 1);
    x.openView();
    check.due("seen: no removed one, no buffer", 2, x.seen(0));
    x.remove(0);
    x.write();
    check.due("seen after a removal and a write", 2, x.seen(0));
    check.due("hits after a removal and a write", "0 1", Store.hits(x, 0, 0));
    x.openView();
    check.due("seen of a later view", 2, x.seen(1));
    x.merge(0);
    check.due("seen after a merge", 2, x.seen(0));
    check.due("hits of the first view", "0 1", Store.hits(x, 0, 0));
    check.due("hits of the second view", "1 3", Store.hits(x, 1, 0));
    check.due("n of the first view: 100 * 3 / (3 * 5)", 20, x.score(0, 0, 0));
    x.commit();
    check.due("seen after a commit", 2, x.seen(0));
    x.crash();
    check.dueThrow("seen after a crash", IndexOutOfBoundsException.class, () -> x.seen(0));
  }

  private static void closingRefuses() {
    TallowIndex x = new TallowIndex();
    check.dueThrow("closeView(0), none open", IndexOutOfBoundsException.class, () -> x.closeView(0));
    x.openView();
    check.dueThrow("closeView(-1)", IndexOutOfBoundsException.class, () -> x.closeView(-1));
    check.dueThrow("closeView(1)", IndexOutOfBoundsException.class, () -> x.closeView(1));
    check.dueThrow("seen(1)", IndexOutOfBoundsException.class, () -> x.seen(1));
    check.dueThrow("seen(-1)", IndexOutOfBoundsException.class, () -> x.seen(-1));
    x.closeView(0);
    check.dueThrow("closeView(0) again", IndexOutOfBoundsException.class, () -> x.closeView(0));
    check.dueThrow("seen(0), closed", IndexOutOfBoundsException.class, () -> x.seen(0));
  }

  private static void meanOfTheLengths() {
    TallowIndex x = new TallowIndex();
    x.addStep('y', 1, 2);
    check.dueThrow("meanLength(0), none open", IndexOutOfBoundsException.class, () -> x.meanLength(0));
    x.openView();
    check.dueThrow("meanLength(0), no documents", ArithmeticException.class, () -> x.meanLength(0));
    Store.put(x, 1, 1);
    Store.put(x, 3);
    Store.put(x);
    x.write();
    x.openView();
    check.due("meanLength(1), 5 of 3", 5.0 / 3.0, x.meanLength(1));
    x.remove(2);
    check.due("meanLength(1) stays", 5.0 / 3.0, x.meanLength(1));
    x.openView();
    check.due("meanLength(2), 5 of 2", 2.5, x.meanLength(2));
    x.closeView(2);
    check.dueThrow("meanLength(2), closed", IndexOutOfBoundsException.class, () -> x.meanLength(2));
  }
}
