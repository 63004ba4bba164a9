import java.util.NoSuchElementException;

/** Promises 22 to 27: ask, join, hits, hit, score and scoreAlone. */
public final class QueriesTest {
  private static final Check check = new Check("QueriesTest");

  public static void main(String[] args) {
    askIsNumberedAndRefuses();
    joinIsNumberedAndRefuses();
    fortyQueriesAreAll();
    twentyQueriesOfWordsAreAll();
    wordsMatchAsOftenAsTheyStand();
    phrasesMatchAtPlaces();
    nearWordsMatchInCouples();
    nearWordsCountPlacesNotWords();
    joinsMatchAndScore();
    scoresAreRoundedDownAheadOfTheWeight();
    scoresCountTheViewAlone();
    joinIsScoredFromAllItsParts();
    allDocumentsAreScored();
    hitsGoByRanksThenNumbers();
    queriesGoThroughNoSteps();
    hitsRefuse();
    scoreAloneIsThatOfTheHit();
    check.end();
  }

  private static void askIsNumberedAndRefuses() {
    TallowIndex x = new TallowIndex();
    check.due("ask w", 0, x.ask('w', 0, -1, -1, 1));
    check.due("ask p", 1, x.ask('p', 59, 0, 99, 9));
    check.due("ask n, distance 1", 2, x.ask('n', 1, 1, 1, 1));
    check.due("ask n, distance 9", 3, x.ask('n', 1, 2, 9, 1));
    for (char kind : new char[] {'W', 'a', 'o', 'x', 'i', 'q', 0}) {
      check.dueThrow("ask kind " + (int) kind, IllegalArgumentException.class, () -> x.ask(kind, 1, 2, 1, 1));
    }
    for (char kind : new char[] {'w', 'p', 'n'}) {
      check.dueThrow("ask " + kind + " -1", IllegalArgumentException.class, () -> x.ask(kind, -1, 2, 1, 1));
      check.dueThrow("ask " + kind + " 60", IllegalArgumentException.class, () -> x.ask(kind, 60, 2, 1, 1));
      check.dueThrow("ask " + kind + " weight 0", IllegalArgumentException.class, () -> x.ask(kind, 1, 2, 1, 0));
      check.dueThrow("ask " + kind + " weight 10", IllegalArgumentException.class, () -> x.ask(kind, 1, 2, 1, 10));
    }
    for (char kind : new char[] {'p', 'n'}) {
      check.dueThrow("ask " + kind + " 1 -1", IllegalArgumentException.class, () -> x.ask(kind, 1, -1, 1, 1));
      check.dueThrow("ask " + kind + " 1 60", IllegalArgumentException.class, () -> x.ask(kind, 1, 60, 1, 1));
    }
    check.dueThrow("ask n distance 0", IllegalArgumentException.class, () -> x.ask('n', 1, 2, 0, 1));
    check.dueThrow("ask n distance 10", IllegalArgumentException.class, () -> x.ask('n', 1, 2, 10, 1));
    check.due("what was refused got no number", 4, x.ask('w', 1, 60, 10, 9));
  }

  private static void joinIsNumberedAndRefuses() {
    TallowIndex x = new TallowIndex();
    check.dueThrow("join a 0 0 of none", IndexOutOfBoundsException.class, () -> x.join('a', 0, 0));
    x.ask('w', 1, 0, 0, 1);
    check.due("join a", 1, x.join('a', 0, 0));
    check.due("join o", 2, x.join('o', 0, 1));
    check.due("join x", 3, x.join('x', 2, 0));
    check.due("join i", 4, x.join('i', 0, 0));
    check.dueThrow("join w", IllegalArgumentException.class, () -> x.join('w', 0, 0));
    check.dueThrow("join z, no such query", IllegalArgumentException.class, () -> x.join('z', 9, 9));
    check.dueThrow("join a -1 0", IndexOutOfBoundsException.class, () -> x.join('a', -1, 0));
    check.dueThrow("join a 0 -1", IndexOutOfBoundsException.class, () -> x.join('a', 0, -1));
    check.dueThrow("join a 5 0", IndexOutOfBoundsException.class, () -> x.join('a', 5, 0));
    check.dueThrow("join a 0 5, itself", IndexOutOfBoundsException.class, () -> x.join('a', 0, 5));
    check.due("what was refused got no number", 5, x.join('a', 4, 4));
  }

  private static void fortyQueriesAreAll() {
    TallowIndex x = new TallowIndex();
    for (int i = 0; i < 39; i++) x.ask('w', i, 0, 0, 1);
    check.due("the last query", 39, x.join('a', 0, 38));
    check.dueThrow("a 41st of words", IllegalStateException.class, () -> x.ask('w', 1, 0, 0, 1));
    check.dueThrow("a 41st, wrong one of words", IllegalArgumentException.class, () -> x.ask('w', 60, 0, 0, 1));
    check.dueThrow("a 41st of two", IllegalStateException.class, () -> x.join('a', 0, 0));
    check.dueThrow("a 41st, wrong second", IndexOutOfBoundsException.class, () -> x.join('a', 0, 40));
    check.dueThrow("a 41st, wrong first", IndexOutOfBoundsException.class, () -> x.join('a', 40, 0));
    x.openView();
    check.due("hits of the last query", 0, x.hits(0, 39));
  }

  private static void twentyQueriesOfWordsAreAll() {
    TallowIndex x = Store.of(Store.words(1));
    x.ask('w', 1, 0, 0, 9);
    x.join('o', 0, 0);
    x.join('o', 1, 1);
    x.join('o', 2, 2);
    x.join('o', 3, 3);
    check.due("of 20", 5, x.join('o', 4, 2));
    check.dueThrow("of 21", IllegalStateException.class, () -> x.join('o', 5, 0));
    check.dueThrow("of 32", IllegalStateException.class, () -> x.join('x', 4, 4));
    check.due("20 times 9 * (100 * 2 / 10)", 3600, x.score(0, 5, 0));
    check.due("of 17", 6, x.join('o', 0, 4));
  }

  private static void wordsMatchAsOftenAsTheyStand() {
    TallowIndex x = Store.of(Store.words(1, 2, 1), Store.words(2), Store.words());
    x.ask('w', 1, 0, 0, 1);
    x.ask('w', 2, 0, 0, 2);
    x.ask('w', 3, 0, 0, 1);
    check.due("hits of 1", 1, x.hits(0, 0));
    check.due("score of 1: 100 * 2 * 4 / (2 * 7)", 57, x.score(0, 0, 0));
    check.due("hits of 2", 2, x.hits(0, 1));
    check.due("hit of 2", 1, x.hit(0, 1, 0));
    check.due("score of 2: 100 * 4 / (3 * 5) = 26, times 2", 52, x.score(0, 1, 0));
    check.due("score of 2: 100 * 4 / (3 * 7) = 19, times 2", 38, x.score(0, 1, 1));
    check.due("hits of 3", 0, x.hits(0, 2));
  }

  private static void phrasesMatchAtPlaces() {
    TallowIndex x = Store.of(Store.words(1, 2, 1, 2), Store.words(2, 1), Store.words(1, 3, 2), Store.words(1, 1, 1));
    x.ask('p', 1, 2, 0, 1);
    x.ask('p', 1, 1, 0, 1);
    check.due("hits of 1 2", 1, x.hits(0, 0));
    check.due("hit of 1 2", 0, x.hit(0, 0, 0));
    check.due("score of 1 2 twice: 100 * 2 * 5 / (2 * 8)", 62, x.score(0, 0, 0));
    check.due("hits of 1 1", 1, x.hits(0, 1));
    check.due("score of 1 1 twice: 100 * 2 * 5 / (2 * 7)", 71, x.score(0, 1, 0));
    TallowIndex y = new TallowIndex();
    y.addStep('y', 1, 31);
    y.addStep('y', 2, 32);
    y.addStep('l', 0, 0);
    Store.put(y, 1, 2);
    y.write();
    y.openView();
    y.ask('p', 1, 2, 0, 1);
    check.due("each word twice, one place: 100 * 2 / (2 * 8)", 12, y.score(0, 0, 0));
  }

  private static void nearWordsMatchInCouples() {
    TallowIndex x = Store.of(Store.words(1, 2, 3, 1), Store.words(2, 5, 5, 1), Store.words(1, 1, 1));
    x.ask('n', 1, 2, 2, 1);
    x.ask('n', 2, 1, 3, 1);
    x.ask('n', 1, 1, 1, 1);
    x.ask('n', 1, 1, 2, 1);
    check.due("hits of 1 2 within 2", 1, x.hits(0, 0));
    check.due("both 1 are near: 100 * 2 * 4 / (2 * 8)", 50, x.score(0, 0, 0));
    check.due("hits of 2 1 within 3", 2, x.hits(0, 1));
    check.due("once: 100 * 4 / (3 * 8)", 16, x.scoreAlone(0, 1, 1));
    check.due("hits of 1 1 within 1", 1, x.hits(0, 2));
    check.due("four couples: 100 * 4 * 4 / (2 * 7)", 114, x.score(0, 2, 0));
    check.due("hits of 1 1 within 2", 1, x.hits(0, 3));
    check.due("six couples: 100 * 6 * 4 / (2 * 7)", 171, x.score(0, 3, 0));
    TallowIndex y = new TallowIndex();
    y.addStep('y', 1, 2);
    Store.put(y, 1);
    y.write();
    y.openView();
    y.ask('n', 1, 2, 9, 1);
    check.due("at the same place they are not near", 0, y.hits(0, 0));
  }

  private static void nearWordsCountPlacesNotWords() {
    TallowIndex x = new TallowIndex();
    x.addStep('y', 1, 31);
    x.addStep('y', 2, 32);
    x.addStep('l', 0, 0);
    Store.put(x, 1, 5, 2);
    x.write();
    x.openView();
    x.ask('n', 1, 2, 2, 1);
    x.ask('w', 1, 0, 0, 1);
    check.due("one couple of places: 100 * 2 / (2 * 9)", 11, x.score(0, 0, 0));
    check.due("the word stands twice: 100 * 2 * 2 / (2 * 9)", 22, x.score(0, 1, 0));
  }

  private static void joinsMatchAndScore() {
    TallowIndex x = Store.of(Store.words(1), Store.words(2), Store.words(1, 2), Store.words(3));
    x.ask('w', 1, 0, 0, 1);
    x.ask('w', 2, 0, 0, 3);
    x.join('a', 0, 1);
    x.join('o', 0, 1);
    x.join('x', 0, 1);
    x.join('i', 0, 1);
    // Alone, 1 scores 100 * 5 / (3 * 5) = 33, or 100 * 5 / (3 * 6) = 27 beside 2; 2 scores 99, or 81 beside 1.
    dueHits(x, 2, "2");
    check.due("a: 27 + 81", 108, x.score(0, 2, 0));
    dueHits(x, 3, "2 1 0");
    check.due("o: of both", 108, x.scoreAlone(0, 3, 2));
    check.due("o: of the second", 99, x.scoreAlone(0, 3, 1));
    check.due("o: of the first", 33, x.scoreAlone(0, 3, 0));
    dueHits(x, 4, "0");
    check.due("x: of the first", 33, x.score(0, 4, 0));
    dueHits(x, 5, "2 0");
    check.due("i: with the wish", 108, x.score(0, 5, 0));
    check.due("i: without the wish", 33, x.score(0, 5, 1));
    x.join('x', 3, 4);
    dueHits(x, 6, "2 1");
    x.join('a', 5, 3);
    dueHits(x, 7, "2 0");
    check.due("a of i and o", 216, x.score(0, 7, 0));
    x.join('x', 0, 0);
    dueHits(x, 8, "");
  }

  private static void dueHits(TallowIndex x, int query, String want) {
    check.due("the hits of " + query, want, Store.hits(x, 0, query));
  }

  private static void scoresAreRoundedDownAheadOfTheWeight() {
    TallowIndex x = Store.of(Store.words(1, 2, 3), Store.words(1));
    x.ask('w', 1, 0, 0, 9);
    check.due("100 * 3 / (3 * 5) = 20, times 9", 180, x.score(0, 0, 0));
    check.due("100 * 3 / (3 * 7) = 14, times 9", 126, x.score(0, 0, 1));
  }

  private static void scoresCountTheViewAlone() {
    TallowIndex x = Store.of(Store.words(1), Store.words(1), Store.words(2));
    x.ask('w', 1, 0, 0, 1);
    Store.put(x, 1);
    check.due("the buffer is not in it: 100 * 4 / (3 * 5)", 26, x.score(0, 0, 0));
    x.remove(0);
    x.openView();
    check.due("the removed one is not in it: 100 * 3 / (2 * 5)", 30, x.score(1, 0, 0));
    check.due("the first view stays", 26, x.score(0, 0, 0));
  }

  private static void joinIsScoredFromAllItsParts() {
    TallowIndex x = Store.of(Store.words(1), Store.words(1, 2));
    x.ask('w', 1, 0, 0, 1);
    x.ask('w', 2, 0, 0, 1);
    x.join('x', 0, 1);
    dueHits(x, 2, "0");
    x.openView();
    check.due("in another view", 1, x.hits(1, 2));
  }

  private static void allDocumentsAreScored() {
    TallowIndex x = new TallowIndex();
    for (int i = 0; i < 29; i++) Store.put(x, 1);
    Store.put(x, 2);
    x.write();
    x.openView();
    x.ask('w', 2, 0, 0, 1);
    x.ask('w', 1, 0, 0, 1);
    x.join('o', 0, 1);
    check.due("hits of all 30", 30, x.hits(0, 2));
    check.due("the rarer word is first", 29, x.hit(0, 2, 0));
    check.due("its score: 100 * 31 / (2 * 5)", 310, x.score(0, 2, 0));
    check.due("the last hit", 28, x.hit(0, 2, 29));
    check.due("hits of the rarer word", 1, x.hits(0, 0));
  }

  private static void hitsGoByRanksThenNumbers() {
    int[] one = Store.words(1);
    TallowIndex x = Store.of(Store.words(1, 2, 3), one, Store.words(1, 1, 2), one, one);
    x.ask('w', 1, 0, 0, 1);
    dueHits(x, 0, "2 1 3 4 0");
    for (int i = 0; i < 9; i++) x.click(4);
    x.setBound(1);
    dueHits(x, 0, "2 4 1 3 0");
    x.setBound(999);
    check.due("its score has no clicks", 20, x.scoreAlone(0, 0, 4));
    check.due("the score of 2: 100 * 2 * 6 / (6 * 7)", 28, x.scoreAlone(0, 0, 2));
    dueHits(x, 0, "4 2 1 3 0");
    x.setBound(8);
    dueHits(x, 0, "2 4 1 3 0");
    x.setBound(0);
    dueHits(x, 0, "2 1 3 4 0");
  }

  private static void queriesGoThroughNoSteps() {
    TallowIndex x = new TallowIndex();
    x.addStep('l', 0, 0);
    Store.put(x, 31);
    x.write();
    x.openView();
    x.ask('w', 31, 0, 0, 1);
    x.ask('w', 1, 0, 0, 1);
    check.due("hits of 31", 0, x.hits(0, 0));
    check.due("hits of 1", 1, x.hits(0, 1));
  }

  private static void hitsRefuse() {
    TallowIndex x = Store.of(Store.words(1), Store.words(1));
    check.dueThrow("hits(0, 0), no query", IndexOutOfBoundsException.class, () -> x.hits(0, 0));
    x.ask('w', 1, 0, 0, 1);
    check.dueThrow("hits(0, -1)", IndexOutOfBoundsException.class, () -> x.hits(0, -1));
    check.dueThrow("hits(0, 1)", IndexOutOfBoundsException.class, () -> x.hits(0, 1));
    check.dueThrow("hits(1, 0)", IndexOutOfBoundsException.class, () -> x.hits(1, 0));
    check.dueThrow("hits(-1, 0)", IndexOutOfBoundsException.class, () -> x.hits(-1, 0));
    check.dueThrow("hit(1, 0, 9)", IndexOutOfBoundsException.class, () -> x.hit(1, 0, 9));
    check.dueThrow("hit(0, 1, 9)", IndexOutOfBoundsException.class, () -> x.hit(0, 1, 9));
    check.dueThrow("hit(0, 0, -1)", NoSuchElementException.class, () -> x.hit(0, 0, -1));
    check.dueThrow("hit(0, 0, 2)", NoSuchElementException.class, () -> x.hit(0, 0, 2));
    check.due("hit(0, 0, 1)", 1, x.hit(0, 0, 1));
    check.dueThrow("score(1, 0, 9)", IndexOutOfBoundsException.class, () -> x.score(1, 0, 9));
    check.dueThrow("score(0, 1, 9)", IndexOutOfBoundsException.class, () -> x.score(0, 1, 9));
    check.dueThrow("score(0, 0, -1)", NoSuchElementException.class, () -> x.score(0, 0, -1));
    check.dueThrow("score(0, 0, 2)", NoSuchElementException.class, () -> x.score(0, 0, 2));
    check.due("score(0, 0, 1)", 20, x.score(0, 0, 1));
    x.closeView(0);
    check.dueThrow("hits(0, 0), closed", IndexOutOfBoundsException.class, () -> x.hits(0, 0));
  }

  private static void scoreAloneIsThatOfTheHit() {
    TallowIndex x = Store.of(Store.words(1), Store.words(2), Store.words(1, 1));
    x.ask('w', 1, 0, 0, 1);
    check.due("scoreAlone(0, 0, 0)", x.score(0, 0, 1), x.scoreAlone(0, 0, 0));
    check.due("scoreAlone(0, 0, 2)", x.score(0, 0, 0), x.scoreAlone(0, 0, 2));
    check.due("scoreAlone of no match", -1, x.scoreAlone(0, 0, 1));
    check.dueThrow("scoreAlone(1, 0, 0)", IndexOutOfBoundsException.class, () -> x.scoreAlone(1, 0, 0));
    check.dueThrow("scoreAlone(0, 1, 0)", IndexOutOfBoundsException.class, () -> x.scoreAlone(0, 1, 0));
    check.dueThrow("scoreAlone(0, 0, 3)", IndexOutOfBoundsException.class, () -> x.scoreAlone(0, 0, 3));
    check.dueThrow("scoreAlone(0, 0, -1)", IndexOutOfBoundsException.class, () -> x.scoreAlone(0, 0, -1));
    x.remove(0);
    x.openView();
    check.due("scoreAlone of one removed later", 26, x.scoreAlone(0, 0, 0));
    check.dueThrow("scoreAlone of one not in the view", IndexOutOfBoundsException.class, () -> x.scoreAlone(1, 0, 0));
  }
}
