/** Promises 33 to 35: click, setBound and turned. */
public final class ClicksTest {
  private static final Check check = new Check("ClicksTest");

  public static void main(String[] args) {
    clicksAreCounted();
    boundsAreKept();
    turnedCouplesAreCounted();
    turnedRefuses();
    check.end();
  }

  private static void clicksAreCounted() {
    TallowIndex x = new TallowIndex();
    check.dueThrow("click(0), none", IndexOutOfBoundsException.class, () -> x.click(0));
    Store.put(x, 1);
    Store.put(x, 2);
    check.due("click(0)", 1, x.click(0));
    check.due("click(0) again", 2, x.click(0));
    check.due("click(1)", 1, x.click(1));
    x.remove(1);
    check.due("click on a removed one", 2, x.click(1));
    check.dueThrow("click(-1)", IndexOutOfBoundsException.class, () -> x.click(-1));
    check.dueThrow("click(2)", IndexOutOfBoundsException.class, () -> x.click(2));
  }

  private static void boundsAreKept() {
    TallowIndex x = new TallowIndex();
    check.due("setBound(999)", 0, x.setBound(999));
    check.dueThrow("setBound(1000)", IllegalArgumentException.class, () -> x.setBound(1000));
    check.dueThrow("setBound(-1)", IllegalArgumentException.class, () -> x.setBound(-1));
    check.due("setBound(0)", 999, x.setBound(0));
    check.due("setBound(5)", 0, x.setBound(5));
  }

  private static void turnedCouplesAreCounted() {
    int[] longest = Store.words(1, 2, 2);
    TallowIndex x = Store.of(Store.words(1), Store.words(1, 2), longest, longest, Store.words(2));
    x.ask('w', 1, 0, 0, 1);
    // Of five, four match: 0 scores 600 / (5 * 5) = 24, 1 scores 20, 2 and 3 score 17.
    check.due("turned without clicks", 0, x.turned(0, 0));
    x.setBound(999);
    x.click(3);
    check.due("turned: of like scores none is", 0, x.turned(0, 0));
    check.due("though 3 is ahead of 2 now", 3, x.hit(0, 0, 2));
    for (int i = 0; i < 4; i++) x.click(3);
    check.due("turned: 3 is ahead of 1", 1, x.turned(0, 0));
    for (int i = 0; i < 2; i++) x.click(3);
    check.due("turned: of like ranks the number decides, 0 is first", 1, x.turned(0, 0));
    for (int i = 0; i < 8; i++) x.click(2);
    check.due("turned: 2 is ahead of 0 and 1, 3 of 1", 3, x.turned(0, 0));
    x.click(3);
    check.due("turned: 2 and 3 are ahead of 0 and 1", 4, x.turned(0, 0));
    x.setBound(3);
    check.due("turned: like ranks of 1, 2 and 3", 0, x.turned(0, 0));
    x.setBound(4);
    check.due("turned: 2 and 3 are ahead of 1", 2, x.turned(0, 0));
    x.ask('w', 30, 0, 0, 1);
    check.due("turned: without hits", 0, x.turned(0, 1));
  }

  private static void turnedRefuses() {
    TallowIndex x = Store.of(Store.words(1));
    check.dueThrow("turned(0, 0), no query", IndexOutOfBoundsException.class, () -> x.turned(0, 0));
    x.ask('w', 1, 0, 0, 1);
    check.dueThrow("turned(1, 0)", IndexOutOfBoundsException.class, () -> x.turned(1, 0));
    check.dueThrow("turned(0, -1)", IndexOutOfBoundsException.class, () -> x.turned(0, -1));
    check.due("turned of one hit", 0, x.turned(0, 0));
  }
}
