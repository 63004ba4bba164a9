import java.util.NoSuchElementException;

/** Short ways to fill an index for a test. */
final class Store {
  private Store() {
  }

  /** Closes a text as a document of the buffer; answers its number. */
  static int putTagged(TallowIndex x, int tag, int whole, int... words) {
    x.open(tag, whole);
    for (int word : words) x.addWord(word);
    return x.close();
  }

  static int put(TallowIndex x, int... words) {
    return putTagged(x, 0, -1, words);
  }

  /** A new index with each of the texts as a document in one segment, and a view on them. */
  static TallowIndex of(int[]... texts) {
    TallowIndex x = new TallowIndex();
    for (int[] text : texts) put(x, text);
    x.write();
    x.openView();
    return x;
  }

  static int[] words(int... words) {
    return words;
  }

  /** The hits of a query in their order, as in "2 0 1". */
  static String hits(TallowIndex x, int view, int query) {
    StringBuilder line = new StringBuilder();
    int count = x.hits(view, query);
    for (int i = 0; i < count; i++) line.append(i == 0 ? "" : " ").append(x.hit(view, query, i));
    return line.toString();
  }

  /** The marked indexes by rising numbers, as in "0 3 5". */
  static String marks(TallowIndex x, int query, int document) {
    StringBuilder line = new StringBuilder();
    try {
      for (int number = 0; number < 100; number++) {
        int index = x.marked(query, document, number);
        line.append(number == 0 ? "" : " ").append(index);
      }
    } catch (NoSuchElementException e) {
      return line.toString();
    }
    return line + " and no end";
  }
}
