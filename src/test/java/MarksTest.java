import java.util.NoSuchElementException;

/** Promise 32: marked. */
public final class MarksTest {
  private static final Check check = new Check("MarksTest");

  public static void main(String[] args) {
    wordsAreMarked();
    phrasesAreMarked();
    nearWordsAreMarked();
    joinsMarkAllButTheSecondOfX();
    indexesAreThoseOfTheFirstText();
    eachIndexOnce();
    allWordsAtAPlaceAreMarked();
    anyDocumentIsMarked();
    markedRefuses();
    check.end();
  }

  private static void dueMarks(TallowIndex x, int query, int document, String want) {
    check.due("the marks of " + query + " in " + document, want, Store.marks(x, query, document));
  }

  private static void wordsAreMarked() {
    TallowIndex x = new TallowIndex();
    Store.put(x, 1, 2, 1, 3, 4, 5, 6, 7, 8, 9, 10, 1);
    x.ask('w', 1, 0, 0, 1);
    x.ask('w', 20, 0, 0, 1);
    dueMarks(x, 0, 0, "0 2 11");
    dueMarks(x, 1, 0, "");
  }

  private static void phrasesAreMarked() {
    TallowIndex x = new TallowIndex();
    Store.put(x, 2, 1, 3, 1, 2, 1, 1);
    x.ask('p', 1, 2, 0, 1);
    x.ask('p', 1, 1, 0, 1);
    dueMarks(x, 0, 0, "3 4");
    dueMarks(x, 1, 0, "5 6");
  }

  private static void nearWordsAreMarked() {
    TallowIndex x = new TallowIndex();
    Store.put(x, 1, 3, 3, 2, 3, 1, 3, 3, 3, 1);
    x.ask('n', 1, 2, 2, 1);
    x.ask('n', 1, 2, 3, 1);
    x.ask('n', 1, 1, 4, 1);
    dueMarks(x, 0, 0, "3 5");
    dueMarks(x, 1, 0, "0 3 5");
    dueMarks(x, 2, 0, "5 9");
  }

  private static void joinsMarkAllButTheSecondOfX() {
    TallowIndex x = new TallowIndex();
    Store.put(x, 1, 2, 3);
    x.ask('w', 1, 0, 0, 1);
    x.ask('w', 2, 0, 0, 1);
    x.ask('w', 9, 0, 0, 1);
    x.join('a', 0, 2);
    x.join('o', 0, 1);
    x.join('x', 0, 1);
    x.join('i', 2, 1);
    x.join('x', 0, 4);
    x.join('a', 5, 1);
    x.join('x', 5, 5);
    dueMarks(x, 3, 0, "0");
    dueMarks(x, 4, 0, "0 1");
    dueMarks(x, 5, 0, "0");
    dueMarks(x, 6, 0, "1");
    dueMarks(x, 7, 0, "0");
    dueMarks(x, 8, 0, "0 1");
    dueMarks(x, 9, 0, "0");
  }

  private static void indexesAreThoseOfTheFirstText() {
    TallowIndex x = new TallowIndex();
    x.addStep('y', 7, 9);
    x.addStep('c', 5, 0);
    Store.put(x, 5, 5, 1, 5, 7);
    x.ask('w', 1, 0, 0, 1);
    x.ask('w', 9, 0, 0, 1);
    x.ask('p', 1, 9, 0, 1);
    dueMarks(x, 0, 0, "2");
    dueMarks(x, 1, 0, "4");
    dueMarks(x, 2, 0, "2 4");
  }

  private static void eachIndexOnce() {
    TallowIndex x = new TallowIndex();
    x.addStep('y', 1, 31);
    x.addStep('l', 0, 0);
    Store.put(x, 2, 1);
    x.ask('w', 1, 0, 0, 1);
    x.join('o', 0, 0);
    check.due("the word stands twice", 2, x.standing(0, 1, 1));
    dueMarks(x, 0, 0, "1");
    dueMarks(x, 1, 0, "1");
  }

  private static void allWordsAtAPlaceAreMarked() {
    TallowIndex x = new TallowIndex();
    x.addStep('y', 5, 35);
    x.addStep('l', 0, 0);
    x.addStep('c', 5, 0);
    Store.put(x, 10, 5, 10, 11);
    check.due("both 10 stand at 0", 2, x.standing(0, 0, 10));
    x.ask('p', 10, 11, 0, 1);
    x.ask('n', 11, 10, 1, 1);
    dueMarks(x, 0, 0, "0 2 3");
    dueMarks(x, 1, 0, "0 2 3");
  }

  private static void anyDocumentIsMarked() {
    TallowIndex x = new TallowIndex();
    Store.put(x, 2, 1);
    Store.put(x, 1, 1);
    x.ask('w', 1, 0, 0, 1);
    dueMarks(x, 0, 0, "1");
    x.remove(1);
    dueMarks(x, 0, 1, "0 1");
    x.crash();
    dueMarks(x, 0, 0, "1");
  }

  private static void markedRefuses() {
    TallowIndex x = new TallowIndex();
    Store.put(x, 2, 1);
    check.dueThrow("marked(0, 0, 0), no query", IndexOutOfBoundsException.class, () -> x.marked(0, 0, 0));
    x.ask('w', 1, 0, 0, 1);
    check.dueThrow("marked(-1, 0, 0)", IndexOutOfBoundsException.class, () -> x.marked(-1, 0, 0));
    check.dueThrow("marked(1, 0, 0)", IndexOutOfBoundsException.class, () -> x.marked(1, 0, 0));
    check.dueThrow("marked(0, 1, 0)", IndexOutOfBoundsException.class, () -> x.marked(0, 1, 0));
    check.dueThrow("marked(0, -1, 0)", IndexOutOfBoundsException.class, () -> x.marked(0, -1, 0));
    check.dueThrow("marked(0, 0, 1)", NoSuchElementException.class, () -> x.marked(0, 0, 1));
    check.dueThrow("marked(0, 0, -1)", NoSuchElementException.class, () -> x.marked(0, 0, -1));
  }
}
