import java.util.NoSuchElementException;

/** Promises 28 to 31: tagged, firstTagged, wholes and wholeScore. */
public final class GroupsTest {
  private static final Check check = new Check("GroupsTest");

  public static void main(String[] args) {
    tagsAreCounted();
    tagsRefuse();
    wholesAreFound();
    wholesOutsideTheView();
    wholesRefuse();
    check.end();
  }

  private static TallowIndex withTags() {
    TallowIndex x = new TallowIndex();
    Store.putTagged(x, 0, -1, 1, 2);
    Store.putTagged(x, 5, -1, 1, 2, 2);
    Store.putTagged(x, 5, -1, 1);
    Store.putTagged(x, 5, -1, 2);
    Store.putTagged(x, 3, -1, 2);
    x.write();
    x.openView();
    x.ask('w', 1, 0, 0, 1);
    return x;
  }

  private static void tagsAreCounted() {
    TallowIndex x = withTags();
    check.due("tagged 0", 1, x.tagged(0, 0, 0));
    check.due("tagged 5", 2, x.tagged(0, 0, 5));
    check.due("tagged 3, which no hit has", 0, x.tagged(0, 0, 3));
    check.due("tagged 1, which nothing has", 0, x.tagged(0, 0, 1));
    check.due("firstTagged 0", 0, x.firstTagged(0, 0, 0));
    check.due("firstTagged 5 by the score", 2, x.firstTagged(0, 0, 5));
    for (int i = 0; i < 99; i++) x.click(1);
    x.setBound(99);
    check.due("firstTagged 5 by the rank", 1, x.firstTagged(0, 0, 5));
    x.ask('p', 1, 2, 0, 1);
    x.hits(0, 0);
    check.due("tagged 5 of fewer hits than ahead", 1, x.tagged(0, 1, 5));
  }

  private static void tagsRefuse() {
    TallowIndex x = withTags();
    check.dueThrow("tagged(1, 0, 9)", IndexOutOfBoundsException.class, () -> x.tagged(1, 0, 9));
    check.dueThrow("tagged(0, 1, 9)", IndexOutOfBoundsException.class, () -> x.tagged(0, 1, 9));
    check.dueThrow("tagged(0, 0, -1)", IllegalArgumentException.class, () -> x.tagged(0, 0, -1));
    check.dueThrow("tagged(0, 0, 6)", IllegalArgumentException.class, () -> x.tagged(0, 0, 6));
    check.dueThrow("firstTagged(1, 0, 9)", IndexOutOfBoundsException.class, () -> x.firstTagged(1, 0, 9));
    check.dueThrow("firstTagged(0, 1, 9)", IndexOutOfBoundsException.class, () -> x.firstTagged(0, 1, 9));
    check.dueThrow("firstTagged(0, 0, -1)", IllegalArgumentException.class, () -> x.firstTagged(0, 0, -1));
    check.dueThrow("firstTagged(0, 0, 6)", IllegalArgumentException.class, () -> x.firstTagged(0, 0, 6));
    check.dueThrow("firstTagged(0, 0, 3)", NoSuchElementException.class, () -> x.firstTagged(0, 0, 3));
  }

  private static void wholesAreFound() {
    TallowIndex x = new TallowIndex();
    Store.putTagged(x, 0, -1, 9);
    Store.putTagged(x, 0, 0, 1);
    Store.putTagged(x, 0, 0, 1, 1);
    Store.putTagged(x, 0, 2, 1, 2, 3);
    Store.putTagged(x, 0, 1, 2);
    x.write();
    x.openView();
    x.ask('w', 1, 0, 0, 1);
    // Of five, three match: 1 scores 150 / 5 = 30, 2 scores 300 / 6 = 50, 3 scores 150 / 7 = 21.
    check.due("wholes: 0 and 2", 2, x.wholes(0, 0));
    check.due("wholeScore of 0 is the greater one", 50, x.wholeScore(0, 0, 0));
    check.due("wholeScore of 2", 21, x.wholeScore(0, 0, 2));
    check.dueThrow("wholeScore of 1, whose part is no hit", NoSuchElementException.class, () -> x.wholeScore(0, 0, 1));
    check.dueThrow("wholeScore of 3, without parts", NoSuchElementException.class, () -> x.wholeScore(0, 0, 3));
    for (int i = 0; i < 99; i++) x.click(1);
    x.setBound(99);
    check.due("wholeScore goes by scores, not by ranks", 50, x.wholeScore(0, 0, 0));
    x.remove(2);
    x.openView();
    check.due("wholes without 2", 1, x.wholes(1, 0));
  }

  private static void wholesOutsideTheView() {
    TallowIndex x = new TallowIndex();
    Store.putTagged(x, 0, -1, 9);
    Store.putTagged(x, 0, 0, 1);
    x.remove(0);
    x.write();
    x.openView();
    x.ask('w', 1, 0, 0, 1);
    check.due("hits", 1, x.hits(0, 0));
    check.due("wholes: the whole is not in the view", 0, x.wholes(0, 0));
    check.dueThrow("wholeScore: it is not in the view", IndexOutOfBoundsException.class, () -> x.wholeScore(0, 0, 0));
  }

  private static void wholesRefuse() {
    TallowIndex x = withTags();
    check.due("wholes of hits without wholes", 0, x.wholes(0, 0));
    check.dueThrow("wholes(1, 0)", IndexOutOfBoundsException.class, () -> x.wholes(1, 0));
    check.dueThrow("wholes(0, 1)", IndexOutOfBoundsException.class, () -> x.wholes(0, 1));
    check.dueThrow("wholeScore(1, 0, 0)", IndexOutOfBoundsException.class, () -> x.wholeScore(1, 0, 0));
    check.dueThrow("wholeScore(0, 1, 0)", IndexOutOfBoundsException.class, () -> x.wholeScore(0, 1, 0));
    check.dueThrow("wholeScore(0, 0, 5)", IndexOutOfBoundsException.class, () -> x.wholeScore(0, 0, 5));
    check.dueThrow("wholeScore(0, 0, -1)", IndexOutOfBoundsException.class, () -> x.wholeScore(0, 0, -1));
    check.dueThrow("wholeScore(0, 0, 0)", NoSuchElementException.class, () -> x.wholeScore(0, 0, 0));
  }
}
