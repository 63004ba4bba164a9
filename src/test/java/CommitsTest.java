/** Promises 15 to 18: commit, crash, follow and isOnReplica. */
public final class CommitsTest {
  private static final Check check = new Check("CommitsTest");

  public static void main(String[] args) {
    commitsAreNumbered();
    crashToNothing();
    crashToTheLastCommit();
    crashBringsBackMergedSegments();
    crashLeavesStepsQueriesClicksAndBound();
    replicaFollows();
    check.end();
  }

  private static void commitsAreNumbered() {
    TallowIndex x = new TallowIndex();
    check.due("commit()", 1, x.commit());
    check.due("commit() again", 2, x.commit());
    Store.put(x, 1);
    x.open(0, -1);
    check.due("commit() with a buffer", 3, x.commit());
    check.due("it wrote the buffer", 1, x.segments());
    check.due("the document is in a segment", 's', x.state(0));
    check.due("the open text stays", 1, x.addWord(2));
    x.crash();
    check.due("commit() after a crash", 4, x.commit());
  }

  private static void crashToNothing() {
    TallowIndex x = new TallowIndex();
    for (int i = 0; i < 4; i++) Store.put(x, i);
    x.remove(0);
    x.write();
    x.remove(1);
    Store.put(x, 4);
    x.open(0, -1);
    x.openView();
    check.due("crash()", 3, x.crash());
    for (int i = 0; i < 5; i++) check.due("state " + i, 'l', x.state(i));
    check.due("segments()", 0, x.segments());
    check.dueThrow("the open text is lost", IllegalStateException.class, x::close);
    check.dueThrow("the view is closed", IndexOutOfBoundsException.class, () -> x.seen(0));
    check.due("the buffer is empty", 0, x.write());
    check.due("crash() again", 0, x.crash());
    check.due("the next number", 5, Store.put(x, 1));
    check.due("a view's next number", 1, x.openView());
  }

  private static void crashToTheLastCommit() {
    TallowIndex x = new TallowIndex();
    for (int i = 0; i < 4; i++) Store.put(x, i);
    x.remove(3);
    x.write();
    x.remove(0);
    check.due("commit()", 1, x.commit());
    Store.put(x, 4);
    x.remove(1);
    check.due("crash() turns 1 and 4", 2, x.crash());
    check.due("0 was removed by then", 'r', x.state(0));
    check.due("1 is back", 's', x.state(1));
    check.due("2 was there all the time", 's', x.state(2));
    check.due("3 was removed by then", 'r', x.state(3));
    check.due("4 is lost", 'l', x.state(4));
    check.due("size(0) counts what was removed", 3, x.size(0));
    check.due("removedShare()", 1f / 3f, x.removedShare());
    Store.put(x, 5);
    x.commit();
    check.due("crash() right after a commit", 0, x.crash());
    check.due("4 stays lost", 'l', x.state(4));
    check.due("5 stays", 's', x.state(5));
    check.due("segments()", 2, x.segments());
    x.remove(5);
    check.due("crash() brings 5 back", 1, x.crash());
    Store.put(x, 6);
    x.remove(6);
    check.due("crash() of a later, removed one", 0, x.crash());
    check.due("6 is lost", 'l', x.state(6));
  }

  private static void crashBringsBackMergedSegments() {
    TallowIndex x = new TallowIndex();
    for (int i = 0; i < 3; i++) {
      Store.put(x, i);
      x.write();
    }
    x.commit();
    x.remove(0);
    x.remove(1);
    check.due("merge(0)", 2, x.merge(0));
    check.due("crash()", 2, x.crash());
    check.due("segments()", 3, x.segments());
    for (int i = 0; i < 3; i++) check.due("size " + i, 1, x.size(i));
    check.due("merge(0) now", 0, x.merge(0));
    check.due("size(0) now", 2, x.size(0));
    Store.put(x, 3);
    x.write();
    check.due("size(2) is the new one", 1, x.size(2));
  }

  private static void crashLeavesStepsQueriesClicksAndBound() {
    TallowIndex x = new TallowIndex();
    x.addStep('l', 0, 0);
    x.ask('w', 1, 0, 0, 1);
    x.setBound(7);
    Store.put(x, 31);
    x.click(0);
    x.crash();
    check.due("clicks stay", 2, x.click(0));
    check.due("the bound stays", 7, x.setBound(8));
    check.due("queries stay", 1, x.ask('w', 2, 0, 0, 1));
    check.due("marked of a lost one", 0, x.marked(0, 0, 0));
    Store.put(x, 31);
    check.due("steps stay", 1, x.standing(1, 0, 1));
  }

  private static void replicaFollows() {
    TallowIndex x = new TallowIndex();
    check.dueThrow("follow(), nothing committed", IllegalStateException.class, x::follow);
    for (int i = 0; i < 4; i++) Store.put(x, i);
    x.write();
    x.remove(0);
    check.due("on the replica ahead of all", false, x.isOnReplica(1));
    x.commit();
    check.due("committed, not followed", false, x.isOnReplica(1));
    x.remove(1);
    Store.put(x, 4);
    x.write();
    check.due("follow()", 3, x.follow());
    check.due("removed by the commit", false, x.isOnReplica(0));
    check.due("removed after the commit", true, x.isOnReplica(1));
    check.due("there all the time", true, x.isOnReplica(2));
    check.due("written after the commit", false, x.isOnReplica(4));
    x.crash();
    check.due("the replica outlives a crash", true, x.isOnReplica(1));
    x.remove(1);
    x.commit();
    check.due("a commit alone changes no replica", true, x.isOnReplica(1));
    check.due("follow() again", 2, x.follow());
    check.due("it is off the replica", false, x.isOnReplica(1));
    check.dueThrow("isOnReplica(5)", IndexOutOfBoundsException.class, () -> x.isOnReplica(5));
    check.dueThrow("isOnReplica(-1)", IndexOutOfBoundsException.class, () -> x.isOnReplica(-1));
    TallowIndex empty = new TallowIndex();
    empty.commit();
    check.due("follow() of an empty commit", 0, empty.follow());
  }
}
