/** Promises 1 to 3: a new object, addStep and dropSteps, with what the steps do to a text. */
public final class StepsTest {
  private static final Check check = new Check("StepsTest");

  public static void main(String[] args) {
    newObjectIsEmpty();
    stepsAreCounted();
    wrongStepsAreRefused();
    lowerTakesThirty();
    evenTakesOne();
    takenOutLeavesItsPlace();
    closingUpMovesWhatIsBehind();
    closingUpCountsTwiceAtOnePlace();
    anotherWordIsPutBeside();
    besideIsPutOncePerPlace();
    besideGetsTheFirstIndexThere();
    stepsGoInTheirOrder();
    stepsAreThoseOfTheClosing();
    longestText();
    check.end();
  }

  private static void newObjectIsEmpty() {
    TallowIndex x = new TallowIndex();
    check.due("new: segments()", 0, x.segments());
    check.due("new: write()", 0, x.write());
    check.due("new: setBound(5)", 0, x.setBound(5));
    check.due("new: dropSteps()", 0, x.dropSteps());
    check.due("new: crash()", 0, x.crash());
    check.dueThrow("new: state(0)", IndexOutOfBoundsException.class, () -> x.state(0));
    check.dueThrow("new: seen(0)", IndexOutOfBoundsException.class, () -> x.seen(0));
    check.dueThrow("new: marked(0, 0, 0)", IndexOutOfBoundsException.class, () -> x.marked(0, 0, 0));
    check.dueThrow("new: close()", IllegalStateException.class, x::close);
    check.dueThrow("new: follow()", IllegalStateException.class, x::follow);
    check.dueThrow("new: removedShare()", ArithmeticException.class, x::removedShare);
    check.due("new: openView()", 0, x.openView());
    check.due("new: open(0, -1)", 0, x.open(0, -1));
    check.due("new: commit()", 1, x.commit());
  }

  private static void stepsAreCounted() {
    TallowIndex x = new TallowIndex();
    check.due("addStep l", 1, x.addStep('l', -1, 60));
    check.due("addStep m", 2, x.addStep('m', 99, -99));
    check.due("addStep s 0", 3, x.addStep('s', 0, 60));
    check.due("addStep c 59", 4, x.addStep('c', 59, -1));
    check.due("addStep y 0 59", 5, x.addStep('y', 0, 59));
    check.due("addStep y 59 0", 6, x.addStep('y', 59, 0));
    check.dueThrow("a seventh step", IllegalStateException.class, () -> x.addStep('l', 0, 0));
    check.dueThrow("a seventh, wrong step", IllegalArgumentException.class, () -> x.addStep('s', 60, 0));
    check.due("dropSteps()", 6, x.dropSteps());
    check.due("dropSteps() again", 0, x.dropSteps());
    check.due("addStep after dropSteps", 1, x.addStep('m', 0, 0));
  }

  private static void wrongStepsAreRefused() {
    TallowIndex x = new TallowIndex();
    for (char kind : new char[] {'L', 'w', 'b', 'z', 0, 255}) {
      check.dueThrow("addStep kind " + (int) kind, IllegalArgumentException.class, () -> x.addStep(kind, 1, 2));
    }
    for (char kind : new char[] {'s', 'c', 'y'}) {
      check.dueThrow("addStep " + kind + " -1", IllegalArgumentException.class, () -> x.addStep(kind, -1, 2));
      check.dueThrow("addStep " + kind + " 60", IllegalArgumentException.class, () -> x.addStep(kind, 60, 2));
    }
    check.dueThrow("addStep y 1 -1", IllegalArgumentException.class, () -> x.addStep('y', 1, -1));
    check.dueThrow("addStep y 1 60", IllegalArgumentException.class, () -> x.addStep('y', 1, 60));
    check.due("wrong steps are not kept", 0, x.dropSteps());
  }

  private static void lowerTakesThirty() {
    TallowIndex x = new TallowIndex();
    x.addStep('l', 0, 0);
    Store.put(x, 29, 30, 59, 0);
    check.due("l: length", 4, x.length(0));
    check.due("l: 29 stays", 1, x.standing(0, 0, 29));
    check.due("l: 30 becomes 0", 1, x.standing(0, 1, 0));
    check.due("l: 30 is gone", 0, x.standing(0, 1, 30));
    check.due("l: 59 becomes 29", 1, x.standing(0, 2, 29));
    check.due("l: 0 stays", 1, x.standing(0, 3, 0));
  }

  private static void evenTakesOne() {
    TallowIndex x = new TallowIndex();
    x.addStep('m', 0, 0);
    Store.put(x, 1, 0, 58, 59);
    check.due("m: 1 becomes 0", 1, x.standing(0, 0, 0));
    check.due("m: 0 stays", 1, x.standing(0, 1, 0));
    check.due("m: 58 stays", 1, x.standing(0, 2, 58));
    check.due("m: 59 becomes 58", 1, x.standing(0, 3, 58));
  }

  private static void takenOutLeavesItsPlace() {
    TallowIndex x = new TallowIndex();
    x.addStep('s', 5, 7);
    Store.put(x, 5, 7, 5, 8);
    check.due("s: length", 2, x.length(0));
    check.due("s: the word is gone", 0, x.standing(0, 0, 5));
    check.due("s: 7 stays at 1", 1, x.standing(0, 1, 7));
    check.due("s: 8 stays at 3", 1, x.standing(0, 3, 8));
    Store.put(x, 5, 5);
    check.due("s: nothing is left", 0, x.length(1));
  }

  private static void closingUpMovesWhatIsBehind() {
    TallowIndex x = new TallowIndex();
    x.addStep('y', 7, 9);
    x.addStep('c', 5, 8);
    Store.put(x, 6, 5, 7, 5, 5, 8);
    check.due("c: length", 4, x.length(0));
    check.due("c: 6 ahead stays at 0", 1, x.standing(0, 0, 6));
    check.due("c: 7 goes to 1", 1, x.standing(0, 1, 7));
    check.due("c: 9 goes with 7", 1, x.standing(0, 1, 9));
    check.due("c: 8 goes to 2", 1, x.standing(0, 2, 8));
  }

  private static void closingUpCountsTwiceAtOnePlace() {
    TallowIndex x = new TallowIndex();
    x.addStep('y', 5, 35);
    x.addStep('l', 0, 0);
    x.addStep('y', 5, 6);
    x.addStep('c', 5, 0);
    Store.put(x, 5, 7, 8);
    check.due("c twice: length", 3, x.length(0));
    check.due("c twice: what stood beside stays at 0", 1, x.standing(0, 0, 6));
    check.due("c twice: 7 goes to -1", 1, x.standing(0, -1, 7));
    check.due("c twice: 8 goes to 0", 1, x.standing(0, 0, 8));
    x.addStep('c', 7, 0);
    Store.put(x, 8, 5, 5, 7);
    check.due("c again: 7 had gone from 3 to -1, ahead of the first word", 1, x.standing(1, -1, 8));
  }

  private static void anotherWordIsPutBeside() {
    TallowIndex x = new TallowIndex();
    x.addStep('y', 3, 40);
    Store.put(x, 3, 4, 3, 40);
    check.due("y: length", 6, x.length(0));
    check.due("y: 3 stays", 1, x.standing(0, 0, 3));
    check.due("y: 40 beside the first 3", 1, x.standing(0, 0, 40));
    check.due("y: none beside 4", 0, x.standing(0, 1, 40));
    check.due("y: 40 beside the second 3", 1, x.standing(0, 2, 40));
    check.due("y: no 3 beside 40", 0, x.standing(0, 3, 3));
    x.ask('w', 40, 0, 0, 1);
    check.due("y: its index is that of the 3", 0, x.marked(0, 0, 0));
    check.due("y: its index is that of the second 3", 2, x.marked(0, 0, 1));
  }

  private static void besideIsPutOncePerPlace() {
    TallowIndex x = new TallowIndex();
    x.addStep('y', 3, 3);
    Store.put(x, 3);
    check.due("y a a: length", 1, x.length(0));
    x.addStep('y', 3, 33);
    x.addStep('l', 0, 0);
    x.addStep('y', 3, 40);
    x.addStep('y', 3, 40);
    Store.put(x, 3);
    check.due("y: 3 stands twice at 0", 2, x.standing(1, 0, 3));
    check.due("y: 40 stands once at 0", 1, x.standing(1, 0, 40));
    check.due("y: length", 3, x.length(1));
  }

  private static void besideGetsTheFirstIndexThere() {
    TallowIndex x = new TallowIndex();
    x.addStep('y', 5, 35);
    x.addStep('l', 0, 0);
    x.addStep('c', 5, 0);
    x.addStep('y', 10, 41);
    Store.put(x, 10, 5, 10);
    check.due("y: both 10 stand at 0", 2, x.standing(0, 0, 10));
    check.due("y: one 41 stands at 0", 1, x.standing(0, 0, 41));
    x.ask('w', 41, 0, 0, 1);
    check.due("y: the index of the first 10", 0, x.marked(0, 0, 0));
    check.dueThrow("y: no other index", java.util.NoSuchElementException.class, () -> x.marked(0, 0, 1));
  }

  private static void stepsGoInTheirOrder() {
    TallowIndex x = new TallowIndex();
    x.addStep('l', 0, 0);
    x.addStep('s', 7, 0);
    Store.put(x, 37, 7);
    check.due("l, s 7: length", 0, x.length(0));
    x.dropSteps();
    x.addStep('s', 7, 0);
    x.addStep('l', 0, 0);
    Store.put(x, 37, 7);
    check.due("s 7, l: length", 1, x.length(1));
    check.due("s 7, l: 7 stands at 0", 1, x.standing(1, 0, 7));
  }

  private static void stepsAreThoseOfTheClosing() {
    TallowIndex x = new TallowIndex();
    x.open(0, -1);
    x.addWord(31);
    x.addStep('l', 0, 0);
    x.close();
    check.due("a step told while the text was open", 1, x.standing(0, 0, 1));
    Store.put(x, 3);
    x.addStep('s', 3, 0);
    check.due("a step told after the closing", 1, x.length(1));
    x.open(0, -1);
    x.addWord(33);
    x.dropSteps();
    x.close();
    check.due("steps dropped while the text was open", 1, x.standing(2, 0, 33));
  }

  private static void longestText() {
    TallowIndex x = new TallowIndex();
    for (int beside = 1; beside <= 6; beside++) x.addStep('y', 0, beside);
    Store.put(x, 0, 0, 0, 0, 0, 0, 0, 0, 0, 0, 0, 0);
    check.due("the longest text: length", 84, x.length(0));
    check.due("the longest text: its last word", 1, x.standing(0, 11, 6));
  }
}
