/** Promises 4 to 10: open, addWord, close, remove, state, length and standing. */
public final class DocumentsTest {
  private static final Check check = new Check("DocumentsTest");

  public static void main(String[] args) {
    openTellsTheNumber();
    openRefusesInOrder();
    thirtyDocumentsAreAll();
    wordsAreCounted();
    closeMakesADocument();
    removeTellsFromWhere();
    statesFollowTheDocument();
    lengthAndStandingOfAnyDocument();
    check.end();
  }

  private static void openTellsTheNumber() {
    TallowIndex x = new TallowIndex();
    check.due("open(5, -1)", 0, x.open(5, -1));
    x.close();
    check.due("open(0, 0)", 1, x.open(0, 0));
    x.close();
    x.remove(0);
    check.due("open with a removed whole", 2, x.open(0, 0));
    x.crash();
    check.due("open with a lost whole after a lost text", 2, x.open(0, 1));
  }

  private static void openRefusesInOrder() {
    TallowIndex x = new TallowIndex();
    Store.put(x, 1);
    check.dueThrow("open(-1, -1)", IllegalArgumentException.class, () -> x.open(-1, -1));
    check.dueThrow("open(6, -1)", IllegalArgumentException.class, () -> x.open(6, -1));
    check.dueThrow("open(6, 9)", IllegalArgumentException.class, () -> x.open(6, 9));
    check.dueThrow("open(0, -2)", IndexOutOfBoundsException.class, () -> x.open(0, -2));
    check.dueThrow("open(0, 1), its own number", IndexOutOfBoundsException.class, () -> x.open(0, 1));
    check.dueThrow("addWord: nothing was opened", IllegalStateException.class, () -> x.addWord(1));
    x.open(0, 0);
    x.addWord(4);
    check.dueThrow("open(6, 9) while open", IllegalArgumentException.class, () -> x.open(6, 9));
    check.dueThrow("open(0, 9) while open", IndexOutOfBoundsException.class, () -> x.open(0, 9));
    check.dueThrow("open(0, -1) while open", IllegalStateException.class, () -> x.open(0, -1));
    check.due("the open text stays", 2, x.addWord(5));
  }

  private static void thirtyDocumentsAreAll() {
    TallowIndex x = new TallowIndex();
    for (int i = 0; i < 30; i++) check.due("document " + i, i, Store.put(x, i));
    check.dueThrow("a 31st", IllegalStateException.class, () -> x.open(0, 29));
    x.remove(3);
    check.dueThrow("a 31st after a removal", IllegalStateException.class, () -> x.open(0, -1));
    x.crash();
    check.dueThrow("a 31st after a crash", IllegalStateException.class, () -> x.open(0, -1));
    check.dueThrow("a 31st with no such whole", IndexOutOfBoundsException.class, () -> x.open(0, 30));
  }

  private static void wordsAreCounted() {
    TallowIndex x = new TallowIndex();
    check.dueThrow("addWord(60), none open", IllegalArgumentException.class, () -> x.addWord(60));
    check.dueThrow("addWord(0), none open", IllegalStateException.class, () -> x.addWord(0));
    x.open(0, -1);
    check.dueThrow("addWord(-1)", IllegalArgumentException.class, () -> x.addWord(-1));
    check.dueThrow("addWord(60)", IllegalArgumentException.class, () -> x.addWord(60));
    for (int i = 1; i <= 12; i++) check.due("word " + i, i, x.addWord(i == 1 ? 0 : 59));
    check.dueThrow("a 13th word", IllegalStateException.class, () -> x.addWord(1));
    check.dueThrow("a 13th, wrong word", IllegalArgumentException.class, () -> x.addWord(60));
    x.close();
    check.due("the length", 12, x.length(0));
    check.dueThrow("addWord after close", IllegalStateException.class, () -> x.addWord(1));
    x.open(0, -1);
    check.due("the next text is empty at first", 1, x.addWord(2));
  }

  private static void closeMakesADocument() {
    TallowIndex x = new TallowIndex();
    x.open(0, -1);
    check.dueThrow("state(0) while open", IndexOutOfBoundsException.class, () -> x.state(0));
    check.due("close() of an empty text", 0, x.close());
    check.due("its length", 0, x.length(0));
    check.due("its state", 'b', x.state(0));
    check.dueThrow("close() again", IllegalStateException.class, x::close);
    check.due("the next", 1, Store.put(x, 1));
    check.due("both are written", 2, x.write());
  }

  private static void removeTellsFromWhere() {
    TallowIndex x = new TallowIndex();
    Store.put(x, 1);
    Store.put(x, 2);
    check.due("remove(0)", 'b', x.remove(0));
    check.dueThrow("remove(0) again", IllegalStateException.class, () -> x.remove(0));
    x.write();
    check.due("remove(1)", 's', x.remove(1));
    check.dueThrow("remove(1) again", IllegalStateException.class, () -> x.remove(1));
    check.dueThrow("remove(-1)", IndexOutOfBoundsException.class, () -> x.remove(-1));
    check.dueThrow("remove(2)", IndexOutOfBoundsException.class, () -> x.remove(2));
    Store.put(x, 3);
    x.crash();
    check.dueThrow("remove of a lost one", IllegalStateException.class, () -> x.remove(2));
  }

  private static void statesFollowTheDocument() {
    TallowIndex x = new TallowIndex();
    Store.put(x, 1);
    Store.put(x, 2);
    check.due("state in the buffer", 'b', x.state(0));
    x.remove(1);
    check.due("state removed", 'r', x.state(1));
    x.write();
    check.due("state in a segment", 's', x.state(0));
    check.due("state removed stays at a write", 'r', x.state(1));
    x.crash();
    check.due("state lost", 'l', x.state(0));
    check.due("state of one removed ahead is lost, too", 'l', x.state(1));
    check.dueThrow("state(2)", IndexOutOfBoundsException.class, () -> x.state(2));
    check.dueThrow("state(-1)", IndexOutOfBoundsException.class, () -> x.state(-1));
    check.dueThrow("state(MIN)", IndexOutOfBoundsException.class, () -> x.state(Integer.MIN_VALUE));
  }

  private static void lengthAndStandingOfAnyDocument() {
    TallowIndex x = new TallowIndex();
    Store.put(x, 7, 8, 7);
    x.remove(0);
    check.due("length of a removed one", 3, x.length(0));
    x.crash();
    check.due("length of a lost one", 3, x.length(0));
    check.due("standing of a lost one", 1, x.standing(0, 2, 7));
    check.due("standing: another word", 0, x.standing(0, 1, 7));
    check.due("standing: no such place", 0, x.standing(0, 3, 7));
    check.due("standing: a place below all", 0, x.standing(0, -1, 7));
    check.due("standing: no such word", 0, x.standing(0, 0, 60));
    check.due("standing: no place has word 0", 0, x.standing(0, 5, 0));
    check.dueThrow("length(1)", IndexOutOfBoundsException.class, () -> x.length(1));
    check.dueThrow("length(-1)", IndexOutOfBoundsException.class, () -> x.length(-1));
    check.dueThrow("standing(1, 0, 7)", IndexOutOfBoundsException.class, () -> x.standing(1, 0, 7));
    check.dueThrow("standing(-1, 0, 7)", IndexOutOfBoundsException.class, () -> x.standing(-1, 0, 7));
  }
}
