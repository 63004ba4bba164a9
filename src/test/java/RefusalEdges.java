/** Each refused call once more on a store in which there is something of everything that it could change. */
final class RefusalEdges {
  private static final String NOTHING = "A method that throws an exception changes nothing.";
  private static final String FILL =
      "openView; addStep l 0 0; part 2 -1 31 7; part 5 0 1; write; text 7 1; text 1; write; remove 1;";
  private static final String COMMIT = "commit; follow;";
  private static final String GO_ON =
      "ask w 1 0 0 1; ask w 9 0 0 1; join o 0 1; openView; remove 2; part 4 0 1; write; text 2; click 0; setBound 5;";
  /**
   * A step; the documents 0 to 5, of which 1 and 2 are removed and 5 is in the buffer; three segments; a commit that
   * was made ahead of the last ones, and a replica of it; the queries 0 to 2; the views 0, which is empty, and 1.
   */
  private static final String STORE = FILL + COMMIT + GO_ON;
  private static final String OPEN_TEXT = "open 3 0; addWord 1;";

  private static final String[] REFUSED = {
    "addStep q 0 0 ! Argument", "addStep s 60 0 ! Argument", "addStep c -1 0 ! Argument",
    "addStep y 0 60 ! Argument", "open 6 -1 ! Argument", "open 0 6 ! Index", "open 0 -2 ! Index",
    "open 0 -1 ! State", "addWord 60 ! Argument", "addWord -1 ! Argument", "remove 6 ! Index", "remove -1 ! Index",
    "remove 1 ! State", "remove 2 ! State", "state 6 ! Index", "length 6 ! Index", "standing 6 0 0 ! Index",
    "size 3 ! Index", "size -1 ! Index", "merge 2 ! Index", "merge 3 ! Index", "merge -1 ! Index",
    "isOnReplica 6 ! Index", "closeView 2 ! Index", "closeView -1 ! Index", "seen 2 ! Index",
    "ask q 0 0 0 1 ! Argument", "ask w 60 0 0 1 ! Argument", "ask p 0 60 0 1 ! Argument",
    "ask n 0 0 0 1 ! Argument", "ask w 0 0 0 10 ! Argument", "join q 0 0 ! Argument", "join a 0 3 ! Index",
    "join a 3 0 ! Index", "hits 2 0 ! Index", "hits 1 3 ! Index", "hit 2 0 0 ! Index", "hit 1 3 0 ! Index",
    "hit 1 0 9 ! Element", "hit 1 1 0 ! Element", "score 2 0 0 ! Index", "score 1 3 0 ! Index",
    "score 1 0 9 ! Element", "score 1 1 0 ! Element", "scoreAlone 2 0 0 ! Index", "scoreAlone 1 3 0 ! Index",
    "scoreAlone 1 0 1 ! Index", "scoreAlone 1 0 4 ! Index", "tagged 2 0 0 ! Index", "tagged 1 3 0 ! Index",
    "tagged 1 0 6 ! Argument", "firstTagged 2 0 0 ! Index", "firstTagged 1 3 0 ! Index",
    "firstTagged 1 0 6 ! Argument", "firstTagged 1 0 5 ! Element", "wholes 2 0 ! Index", "wholes 1 3 ! Index",
    "wholeScore 2 0 0 ! Index", "wholeScore 1 3 0 ! Index", "wholeScore 1 0 1 ! Index",
    "wholeScore 1 0 3 ! Element", "marked 3 0 0 ! Index", "marked 0 6 0 ! Index", "marked 0 0 9 ! Element",
    "marked 1 0 0 ! Element", "click 6 ! Index", "setBound 1000 ! Argument", "setBound -1 ! Argument",
    "turned 2 0 ! Index", "turned 1 3 ! Index", "meanLength 2 ! Index", "meanLength 0 ! Arithmetic",
  };

  private RefusalEdges() {
  }

  static void addTo(Edges edges) {
    edges.in("Terms");
    edges.edge(NOTHING, "the store is as it is told to be",
        STORE + "segments = 3; size 0 = 2; size 1 = 2; size 2 = 1; state 0 = s; state 1 = r; state 2 = r;"
            + "state 3 = s; state 4 = s; state 5 = b; isOnReplica 2 = true; isOnReplica 4 = false; seen 0 = 0;"
            + "seen 1 = 3; hits 1 0 = 3");
    for (String refused : REFUSED) edges.edge(NOTHING, refused, STORE + OPEN_TEXT + refused);
    for (String refused : REFUSED) {
      boolean isForOpenText = refused.equals("open 0 -1 ! State");
      if (!isForOpenText) edges.edge(NOTHING, "without an open text " + refused, STORE + refused);
    }
    addFullOnes(edges);
    addEmptyOnes(edges);
  }

  private static void addFullOnes(Edges edges) {
    edges.edge(NOTHING, "six steps", STORE + "5x addStep m 0 0;" + OPEN_TEXT + "addStep y 1 2 ! State");
    edges.edge(NOTHING, "twelve words", STORE + OPEN_TEXT + "11x addWord 7; addWord 1 ! State");
    edges.edge(NOTHING, "30 documents", STORE + "24x text 1; open 3 0 ! State");
    edges.edge(NOTHING, "four views", STORE + "2x openView;" + OPEN_TEXT + "openView ! State");
    edges.edge(NOTHING, "40 queries, of words", STORE + "37x ask w 1 0 0 1;" + OPEN_TEXT + "ask p 1 7 0 1 ! State");
    edges.edge(NOTHING, "40 queries, of two", STORE + "37x ask w 1 0 0 1;" + OPEN_TEXT + "join a 0 39 ! State");
    edges.edge(NOTHING, "more than 20 queries of words",
        STORE + "join o 2 2; join o 3 3; join o 4 4;" + OPEN_TEXT + "join a 5 4 ! State; join a 5 3 = 6");
  }

  private static void addEmptyOnes(Edges edges) {
    edges.edge(NOTHING, "no open text to add a word to", STORE + "addWord 7 ! State");
    edges.edge(NOTHING, "no open text to close", STORE + "close ! State");
    edges.edge(NOTHING, "nothing was committed", FILL + GO_ON + OPEN_TEXT + "follow ! State");
    edges.edge(NOTHING, "nothing was committed, and no text is open", FILL + GO_ON + "follow ! State");
    String noSegments =
        FILL + COMMIT + GO_ON + "remove 0; remove 3; remove 4; merge 0 = 4; text 1; write; remove 5; remove 6;"
            + "merge 0 = 3; text 1;";
    edges.edge(NOTHING, "no documents are in segments",
        noSegments + OPEN_TEXT + "removedShare ! Arithmetic; segments = 0");
    edges.edge(NOTHING, "no documents are in segments, and no text is open",
        noSegments + "removedShare ! Arithmetic; segments = 0");
  }
}
