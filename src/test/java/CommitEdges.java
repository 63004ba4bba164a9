/** Boundary cases of commits, crashes and the replica: promises 15 to 18. */
final class CommitEdges {
  private CommitEdges() {
  }

  static void addTo(Edges edges) {
    addKeeping(edges);
    addTakingBack(edges);
    addCommit(edges);
    addCrash(edges);
    addReplica(edges);
  }

  private static void addKeeping(Edges edges) {
    edges.in("Terms");
    String commit = "A commit writes the buffer, and keeps all segments and what is removed.";
    edges.edge(commit, "an empty store", "commit = 1; segments = 0; crash = 0; segments = 0");
    edges.edge(commit, "an empty buffer", "text; write; commit; segments = 1; crash = 0; segments = 1");
    edges.edge(commit, "the buffer", "text; commit; state 0 = s; segments = 1; size 0 = 1; write = 0");
    edges.edge(commit, "a removed one of the buffer",
        "2x text; remove 0; commit; size 0 = 1; crash = 0; state 0 = r; size 0 = 1");
    edges.edge(commit, "a removed one of a segment",
        "2x text; write; remove 0; commit; crash = 0; state 0 = r; size 0 = 2; removedShare = 1/2");
    edges.edge(commit, "merged segments",
        "text; write; text; write; merge 0; commit; crash = 0; segments = 1; size 0 = 2");
    edges.edge(commit, "an open text is not written",
        "open 0 -1; addWord 1; commit; segments = 0; addWord 2 = 2; close; state 0 = b");
    edges.edge(commit, "later ones do not change what was kept",
        "text; commit; text; commit; crash = 0; segments = 2; state 1 = s");
    edges.edge("Steps, queries, clicks and the bound stay.", "steps",
        "6x addStep l 0 0; crash; text 31; standing 0 0 1 = 1; dropSteps = 6");
    edges.edge("Steps, queries, clicks and the bound stay.", "steps that were told behind the commit",
        "commit; addStep l 0 0; crash; dropSteps = 1");
    edges.edge("Steps, queries, clicks and the bound stay.", "steps that were dropped behind the commit",
        "addStep l 0 0; commit; dropSteps; crash; dropSteps = 0");
    edges.edge("Steps, queries, clicks and the bound stay.", "queries",
        "ask w 1 0 0 1; commit; ask w 2 0 0 1; crash; text 2; write; openView; hits 0 1 = 1; ask w 1 0 0 1 = 2");
    edges.edge("Steps, queries, clicks and the bound stay.", "40 queries",
        "40x ask w 1 0 0 1; crash; ask w 1 0 0 1 ! State");
    edges.edge("Steps, queries, clicks and the bound stay.", "clicks",
        "text; click 0; commit; click 0 = 2; crash; click 0 = 3");
    edges.edge("Steps, queries, clicks and the bound stay.", "clicks of a lost one",
        "text; click 0; crash; click 0 = 2");
    edges.edge("Steps, queries, clicks and the bound stay.", "the bound",
        "setBound 5; commit; setBound 999; crash; setBound 0 = 999");
  }

  private static void addTakingBack(Edges edges) {
    edges.in("Terms");
    String crash =
        "A crash takes everything back to the last commit, or to nothing: segments, what is removed, the buffer; "
            + "documents are as they were when that was made, those that were closed later are lost; an open text "
            + "is lost, and all views are closed.";
    edges.edge(crash, "to nothing: the buffer", "2x text; crash; state 0 = l; state 1 = l; write = 0");
    edges.edge(crash, "to nothing: segments",
        "text; write; text; write; crash; segments = 0; size 0 ! Index; state 0 = l");
    edges.edge(crash, "to nothing: what is removed", "2x text; write; remove 0; crash; state 0 = l; state 1 = l");
    edges.edge(crash, "to the commit: the buffer",
        "text; commit; text; crash; state 0 = s; state 1 = l; write = 0; segments = 1");
    edges.edge(crash, "to the commit: segments",
        "text; write; text; commit; text; write; segments = 3; crash; segments = 2; state 2 = l");
    edges.edge(crash, "to the commit: what is removed",
        "2x text; commit; remove 0; crash; state 0 = s; removedShare = 0/2");
    edges.edge(crash, "to the commit: what was merged",
        "text; write; text; commit; merge 0; segments = 1; crash; segments = 2; size 0 = 1; size 1 = 1");
    edges.edge(crash, "to the commit: what was merged away",
        "text; write; text; commit; remove 0; remove 1; merge 0; segments = 0; crash; segments = 2; state 0 = s");
    edges.edge(crash, "to the last one of several",
        "text; commit; remove 0; commit; text; commit; text; crash; state 0 = r; state 1 = s; state 2 = l");
    edges.edge(crash, "one just ahead of the commit, one just behind",
        "text; commit; text; crash; state 0 = s; state 1 = l");
    edges.edge(crash, "removed by then stays removed",
        "2x text; remove 0; write; remove 1; commit; crash; state 0 = r; state 1 = r");
    edges.edge(crash, "closed later and removed is lost", "commit; text; remove 0; crash; state 0 = l");
    edges.edge(crash, "lost by then stays lost", "text; crash; commit; crash; state 0 = l");
    edges.edge(crash, "a second crash", "text; commit; text; crash; crash; state 0 = s; state 1 = l; segments = 1");
    edges.edge(crash, "what was closed behind a crash",
        "text; commit; text; crash; text; commit; crash; state 0 = s; state 1 = l; state 2 = s; segments = 2;"
            + "size 1 = 1");
    edges.edge(crash, "an open text is lost",
        "open 0 -1; addWord 1; crash; close ! State; addWord 1 ! State; state 0 ! Index; open 0 -1 = 0");
    edges.edge(crash, "an open text is lost, though it was open at the commit",
        "open 0 -1; commit; crash; close ! State");
    edges.edge(crash, "all four views are closed",
        "4x openView; crash; seen 0 ! Index; seen 3 ! Index; closeView 3 ! Index; 4x openView; openView ! State");
    edges.edge(crash, "a view that was open at the commit is closed",
        "text; write; openView; commit; crash; seen 0 ! Index; openView = 1; seen 1 = 1");
  }

  private static void addCommit(Edges edges) {
    edges.in("Promise 15: commit");
    String number = "Returns the number of the commit, from 1 on.";
    edges.edge(number, "the first and the next, with nothing new between them", "commit = 1; commit = 2; commit = 3");
    edges.edge(number, "a crash takes no number back", "text; commit = 1; crash; commit = 2; crash; crash; commit = 3");
    edges.edge(number, "a crash is no commit", "crash; crash; commit = 1");
  }

  private static void addCrash(Edges edges) {
    edges.in("Promise 16: crash");
    String turned =
        "Returns the number of documents whose state is 'b' or 's' now and was neither ahead, or the other way "
            + "round.";
    edges.edge(turned, "an empty store", "crash = 0; crash = 0");
    edges.edge(turned, "b becomes l", "text; crash = 1; crash = 0");
    edges.edge(turned, "s becomes l", "text; write; crash = 1");
    edges.edge(turned, "r becomes l", "text; text; remove 0; write; remove 1; crash = 0");
    edges.edge(turned, "r becomes s", "text; commit; remove 0; crash = 1; crash = 0");
    edges.edge(turned, "s stays s, r stays r, l stays l",
        "text; crash; text; text; write; remove 2; commit; crash = 0");
    edges.edge(turned, "all 30", "30x text; crash = 30; crash = 0");
    edges.edge(turned, "both ways are counted", "2x text; commit; remove 0; 3x text; write; remove 4; crash = 3");
    edges.edge(turned, "an open text is no document", "open 0 -1; addWord 1; crash = 0");
  }

  private static void addReplica(Edges edges) {
    edges.in("Terms");
    String replica =
        "The replica has the documents of the last commit that it followed, which were not removed by then.";
    edges.edge(replica, "it followed none", "text; commit; isOnReplica 0 = false; follow = 1; isOnReplica 0 = true");
    edges.edge(replica, "removed just ahead of the commit",
        "2x text; write; remove 0; commit; follow = 1; isOnReplica 0 = false; isOnReplica 1 = true");
    edges.edge(replica, "removed just behind the commit",
        "2x text; commit; remove 0; follow = 2; isOnReplica 0 = true");
    edges.edge(replica, "closed just ahead of the commit", "text; commit; follow = 1; isOnReplica 0 = true");
    edges.edge(replica, "closed just behind the commit", "commit; text; write; follow = 0; isOnReplica 0 = false");
    edges.edge(replica, "a later commit that it did not follow",
        "text; commit; follow; remove 0; text; commit; isOnReplica 0 = true; isOnReplica 1 = false");
    edges.edge(replica, "the last one of several",
        "text; commit; remove 0; text; commit; follow = 1; isOnReplica 0 = false; isOnReplica 1 = true");
    edges.edge(replica, "a crash leaves it",
        "text; commit; follow; text; crash; isOnReplica 0 = true; isOnReplica 1 = false; follow = 1");
    edges.edge(replica, "a crash does not let it follow",
        "text; commit; follow; remove 0; text; commit; crash; isOnReplica 0 = true; isOnReplica 1 = false");
    edges.edge(replica, "removed of the buffer", "2x text; remove 1; commit; follow = 1; isOnReplica 1 = false");
    edges.in("Promise 17: follow");
    edges.edge("Returns the number of documents that it has.", "none and 30",
        "commit; follow = 0; 30x text; commit; follow = 30; follow = 30");
    edges.edge("Returns the number of documents that it has.", "all were removed",
        "text; commit; follow = 1; remove 0; commit; follow = 0; isOnReplica 0 = false");
    String nothing = "Throws `IllegalStateException` if nothing was committed";
    edges.edge(nothing, "an empty store", "follow ! State; commit; follow = 0");
    edges.edge(nothing, "written, but not committed", "text; write; follow ! State; isOnReplica 0 = false");
    edges.edge(nothing, "behind a crash", "text; crash; follow ! State; commit; crash; follow = 0");
    edges.in("Promise 18: isOnReplica");
    String noDocument = "Throws `IndexOutOfBoundsException` if there is no such document";
    edges.edge(noDocument, "in an empty store", "isOnReplica 0 ! Index; isOnReplica -1 ! Index");
    edges.edge(noDocument, "too small",
        "text; commit; follow; isOnReplica -1 ! Index; isOnReplica MIN ! Index; isOnReplica 0 = true");
    edges.edge(noDocument, "too large",
        "2x text; commit; follow; isOnReplica 2 ! Index; isOnReplica MAX ! Index; isOnReplica 1 = true");
    edges.edge(noDocument, "an open text is none yet",
        "open 0 -1; isOnReplica 0 ! Index; close; isOnReplica 0 = false");
    edges.edge(noDocument, "beyond the 30th",
        "30x text; commit; follow; isOnReplica 30 ! Index; isOnReplica 29 = true");
  }
}
