/** Boundary cases of hits, of what is found from them, and of clicks: promises 24 to 31 and 33 to 35. */
final class HitEdges {
  private static final String NO_VIEW_OR_QUERY =
      "Throws `IndexOutOfBoundsException` if there is no such view that is open, or no such query";
  private static final String NOT_IN_VIEW =
      "Throws `IndexOutOfBoundsException` if there is no such view that is open, no such query, or the document is "
          + "not in the view";

  private HitEdges() {
  }

  static void addTo(Edges edges) {
    addOrder(edges);
    addHitsAndScores(edges);
    addScoreAlone(edges);
    addTags(edges);
    addWholes(edges);
    addClicks(edges);
    addBound(edges);
    addTurned(edges);
  }

  /** What every call on a view and a query refuses; the last arguments of the call are right ones, then wrong ones. */
  private static void addViewAndQuery(Edges edges, String sentence, String name, String right, String wrong) {
    // The view 1 is open and has the documents 0 and 1, which is a part of 0; the only query finds both.
    String open = "part 0 -1 1; part 0 0 1; write; openView; openView; closeView 0; ask w 1 0 0 1;";
    addRefusals(edges, sentence, "no view was opened", "part 0 -1 1; ask w 1 0 0 1;", name, right, "0 0", "-1 0");
    addRefusals(edges, sentence, "the view is too small", open, name, right, "-1 0", "MIN 0");
    addRefusals(edges, sentence, "the view is too large", open, name, right, "2 0", "MAX 0");
    addRefusals(edges, sentence, "the view is closed", open, name, right, "0 0");
    addRefusals(edges, sentence, "a crash closed the view", open + "crash;", name, right, "1 0");
    addRefusals(edges, sentence, "there is no query", "part 0 -1 1; write; openView;", name, right, "0 0", "0 -1");
    addRefusals(edges, sentence, "the query is too small", open, name, right, "1 -1", "1 MIN");
    addRefusals(edges, sentence, "the query is too large", open, name, right, "1 1", "1 MAX");
    edges.edge(sentence, "both are right", open + name + " 1 0" + right);
    if (wrong.isEmpty()) return;
    String ahead = "it comes ahead of what else is wrong";
    addRefusals(edges, sentence, ahead, open, name, wrong, "0 0", "-1 0", "2 0", "1 -1", "1 1");
  }

  private static void addRefusals(
      Edges edges, String sentence, String title, String ahead, String name, String rest, String... wrong) {
    StringBuilder script = new StringBuilder(ahead);
    for (String viewAndQuery : wrong) script.append(name + " " + viewAndQuery + rest + " ! Index;");
    edges.edge(sentence, title, script.toString());
  }

  private static void addOrder(Edges edges) {
    edges.in("Terms");
    String order =
        "The hits of a query in a view are the documents that match, by falling ranks, of several by rising numbers.";
    edges.edge(order, "none", "openView; ask w 1 0 0 1; hits 0 0 = 0; text 2; write; openView; hits 1 0 = 0");
    edges.edge(order, "all 30 of one rank",
        "30x text 1; write; openView; ask w 1 0 0 1; hits 0 0 = 30; hit 0 0 0 = 0; hit 0 0 1 = 1; hit 0 0 29 = 29");
    edges.edge(order, "rising scores",
        "text 1 2 3; text 1 2; text 1; write; openView; ask w 1 0 0 1; hit 0 0 0 = 2; hit 0 0 1 = 1; hit 0 0 2 = 0");
    edges.edge(order, "falling scores",
        "text 1; text 1 2; text 1 2 3; write; openView; ask w 1 0 0 1; hit 0 0 0 = 0; hit 0 0 1 = 1; hit 0 0 2 = 2");
    edges.edge(order, "two of one rank behind and ahead of another",
        "text 1 2; text 1; text 1 2; text 1; write; openView; ask w 1 0 0 1; hit 0 0 0 = 1; hit 0 0 1 = 3;"
            + "hit 0 0 2 = 0; hit 0 0 3 = 2");
    edges.edge(order, "not by segments",
        "text 1; write; text 1; text 1; write; merge 0; openView; ask w 1 0 0 1; hit 0 0 0 = 0; hit 0 0 2 = 2");
    String rank = "The rank is the score plus the lesser one of the number of clicks of the document and the bound.";
    // Of two, both match: 0 scores 300 / 18 = 16, and 1 scores 20.
    String two = "text 1 2; text 1; write; openView; ask w 1 0 0 1;";
    edges.edge(rank, "one click less than it takes", two + "setBound 999; 3x click 0; hit 0 0 0 = 1");
    edges.edge(rank, "like ranks: the number decides", two + "setBound 999; 4x click 0; hit 0 0 0 = 0; turned 0 0 = 1");
    edges.edge(rank, "the bound is one less than it takes",
        two + "setBound 3; 9x click 0; hit 0 0 0 = 1; setBound 4; hit 0 0 0 = 0");
    edges.edge(rank, "as many clicks as the bound",
        two + "setBound 4; 4x click 0; hit 0 0 0 = 0; click 0; hit 0 0 0 = 0; click 1; hit 0 0 0 = 1");
    edges.edge(rank, "the bound 0",
        two + "99x click 0; hit 0 0 0 = 1; setBound 99; hit 0 0 0 = 0; setBound 0; hit 0 0 0 = 1");
    edges.edge(rank, "clicks on both, above the bound",
        two + "setBound 5; 50x click 0; 6x click 1; hit 0 0 0 = 1; score 0 0 0 = 20");
    edges.edge(rank, "198 clicks and 199, the bound 198 and 199",
        "text 1 1 1; text 1; write; openView; ask w 1 0 0 9; setBound 999; 198x click 1; hit 0 0 0 = 0; click 1;"
            + "hit 0 0 0 = 1; setBound 198; hit 0 0 0 = 0; setBound 199; hit 0 0 0 = 1");
    edges.edge(rank, "clicks ahead of the writing",
        "text 1 2; 5x click 0; text 1; write; openView; ask w 1 0 0 1; setBound 5; hit 0 0 0 = 0");
    edges.edge(rank, "a click does not make a document match",
        two + "ask w 2 0 0 1; setBound 9; 9x click 1; hits 0 1 = 1; hit 0 1 0 = 0");
  }

  private static void addHitsAndScores(Edges edges) {
    String three = "text 1; text 2; text 1 2; text 1; write; openView; ask w 1 0 0 1; ask w 9 0 0 1;";
    edges.in("Promise 24: hits");
    edges.edge("Returns the number of documents.", "none, one and 30",
        "text 1; 29x text 2; write; openView; ask w 3 0 0 1; ask w 1 0 0 1; ask w 2 0 0 1; join o 1 2; hits 0 0 = 0;"
            + "hits 0 1 = 1; hits 0 2 = 29; hits 0 3 = 30");
    addViewAndQuery(edges, NO_VIEW_OR_QUERY, "hits", "", "");
    edges.edge(NO_VIEW_OR_QUERY, "the 40th query, and no 41st",
        "text 1; write; openView; 40x ask w 1 0 0 1; hits 0 39 = 1; hits 0 40 ! Index");
    edges.in("Promise 25: hit");
    edges.edge("- `index`: the index, from 0", "the first and the last",
        three + "hit 0 0 0 = 0; hit 0 0 1 = 3; hit 0 0 2 = 2");
    addViewAndQuery(edges, NO_VIEW_OR_QUERY, "hit", " 0", " 2");
    addNoHit(edges, "hit", three);
    edges.in("Promise 26: score");
    edges.edge("- `index`: the index of the hit, from 0", "the first and the last",
        three + "score 0 0 0 = 25; score 0 0 1 = 25; score 0 0 2 = 20");
    addViewAndQuery(edges, NO_VIEW_OR_QUERY, "score", " 0", " 2");
    addNoHit(edges, "score", three);
    edges.edge("Returns the score of a hit, as it is found for all hits.", "of the 30th hit of the 40th query",
        "30x text 1; write; openView; 40x ask w 1 0 0 1; score 0 39 29 = 20; score 0 39 0 = 20");
    edges.edge("Returns the score of a hit, as it is found for all hits.", "it goes with the rank, and has no clicks",
        three + "setBound 9; 9x click 2; hit 0 0 0 = 2; score 0 0 0 = 20; score 0 0 1 = 25");
  }

  private static void addNoHit(Edges edges, String name, String three) {
    String noHit = "Throws `NoSuchElementException` if there is no such hit";
    edges.edge(noHit, "the index is too small",
        (three + "CALL 0 0 -1 ! Element; CALL 0 0 MIN ! Element; CALL 0 0 0").replace("CALL", name));
    edges.edge(noHit, "the index is too large",
        (three + "CALL 0 0 3 ! Element; CALL 0 0 MAX ! Element; CALL 0 0 2").replace("CALL", name));
    edges.edge(noHit, "there are no hits",
        (three + "CALL 0 1 0 ! Element; CALL 0 1 -1 ! Element").replace("CALL", name));
    edges.edge(noHit, "fewer hits than those of the query ahead",
        (three + "hits 0 0 = 3; ask w 2 0 0 1; CALL 0 2 1; CALL 0 2 2 ! Element").replace("CALL", name));
    edges.edge(noHit, "an empty view", ("openView; ask w 1 0 0 1; CALL 0 0 0 ! Element").replace("CALL", name));
    edges.edge(noHit, "30 hits",
        ("30x text 1; write; openView; ask w 1 0 0 1; CALL 0 0 29; CALL 0 0 30 ! Element").replace("CALL", name));
  }

  private static void addScoreAlone(Edges edges) {
    edges.in("Promise 27: scoreAlone");
    String score = "Returns the score, -1 if it does not match.";
    String two = "text 1; text 2; text; write; openView; ask w 1 0 0 1;";
    edges.edge(score, "it matches, another one does not", two + "scoreAlone 0 0 0 = 40; scoreAlone 0 0 1 = -1");
    edges.edge(score, "an empty one does not", two + "scoreAlone 0 0 2 = -1");
    edges.edge(score, "it has no clicks",
        two + "setBound 9; click 0; click 1; scoreAlone 0 0 0 = 40; scoreAlone 0 0 1 = -1");
    edges.edge(score, "half of an 'a', and the second of an 'x'",
        two + "ask w 2 0 0 1; join a 0 1; join x 0 0; scoreAlone 0 2 0 = -1; scoreAlone 0 3 0 = -1");
    addViewAndQuery(edges, NOT_IN_VIEW, "scoreAlone", " 0", " 9");
    addNotInView(edges, "scoreAlone");
  }

  private static void addNotInView(Edges edges, String name) {
    String open = "text 1; part 0 0 1; write; openView; ask w 1 0 0 1;";
    edges.edge(NOT_IN_VIEW, "there is no such document",
        (open + "CALL 0 0 -1 ! Index; CALL 0 0 MIN ! Index; CALL 0 0 2 ! Index; CALL 0 0 MAX ! Index; CALL 0 0 0")
            .replace("CALL", name));
    edges.edge(NOT_IN_VIEW, "it is in the buffer",
        (open + "part 0 1 1; CALL 0 0 2 ! Index; write; CALL 0 0 2 ! Index").replace("CALL", name));
    edges.edge(NOT_IN_VIEW, "it was removed ahead of the opening",
        (open + "remove 0; openView; CALL 1 0 0 ! Index; CALL 0 0 0").replace("CALL", name));
    edges.edge(NOT_IN_VIEW, "it was removed behind the opening",
        (open + "remove 0; CALL 0 0 0 = 20").replace("CALL", name));
    edges.edge(NOT_IN_VIEW, "it was lost", (open + "crash; openView; CALL 1 0 0 ! Index").replace("CALL", name));
    edges.edge(NOT_IN_VIEW, "an empty view",
        ("openView; ask w 1 0 0 1; text 1; CALL 0 0 0 ! Index").replace("CALL", name));
  }

  private static void addTags(Edges edges) {
    String tags = "part 0 -1 1; part 5 -1 1 2; part 5 -1 1; part 3 -1 2; write; openView; ask w 1 0 0 1;";
    edges.in("Promise 28: tagged");
    edges.edge("- `tag`: the tag, 0 to 5", "0 and 5", tags + "tagged 0 0 0 = 1; tagged 0 0 5 = 2");
    edges.edge("Returns the number of documents.", "none",
        tags + "tagged 0 0 3 = 0; tagged 0 0 1 = 0; ask w 9 0 0 1; tagged 0 1 5 = 0");
    edges.edge("Returns the number of documents.", "all 30",
        "30x part 5 -1 1; write; openView; ask w 1 0 0 1; tagged 0 0 5 = 30; tagged 0 0 4 = 0");
    addViewAndQuery(edges, NO_VIEW_OR_QUERY, "tagged", " 0", " 6");
    addNoTag(edges, "tagged", tags);
    edges.in("Promise 29: firstTagged");
    edges.edge("- `tag`: the tag, 0 to 5", "0 and 5", tags + "firstTagged 0 0 0 = 0; firstTagged 0 0 5 = 2");
    edges.edge("Returns the first hit with a tag.", "by ranks",
        tags + "setBound 9; 9x click 1; firstTagged 0 0 5 = 1; setBound 0; firstTagged 0 0 5 = 2");
    edges.edge("Returns the first hit with a tag.", "of like ranks by numbers",
        "part 1 -1 1; part 4 -1 1; part 4 -1 1; write; openView; ask w 1 0 0 1; firstTagged 0 0 4 = 1");
    addViewAndQuery(edges, NO_VIEW_OR_QUERY, "firstTagged", " 0", " 6");
    addNoTag(edges, "firstTagged", tags);
    edges.edge("Throws `IllegalArgumentException` if there is no such tag", "it comes ahead of no such hit",
        "openView; ask w 1 0 0 1; firstTagged 0 0 6 ! Argument; firstTagged 0 0 5 ! Element");
    String noHit = "Throws `NoSuchElementException` if there is no such hit";
    edges.edge(noHit, "a tag that no document has",
        tags + "firstTagged 0 0 1 ! Element; firstTagged 0 0 4 ! Element; firstTagged 0 0 5 = 2");
    edges.edge(noHit, "a tag that no hit has",
        tags + "firstTagged 0 0 3 ! Element; ask w 2 0 0 1; firstTagged 0 1 3 = 3");
    edges.edge(noHit, "there are no hits",
        tags + "ask w 9 0 0 1; firstTagged 0 1 0 ! Element; firstTagged 0 1 5 ! Element");
    edges.edge(noHit, "an empty view", "openView; ask w 1 0 0 1; firstTagged 0 0 0 ! Element");
  }

  private static void addNoTag(Edges edges, String name, String tags) {
    String noTag = "Throws `IllegalArgumentException` if there is no such tag";
    edges.edge(noTag, "too small",
        (tags + "CALL 0 0 -1 ! Argument; CALL 0 0 MIN ! Argument; CALL 0 0 0").replace("CALL", name));
    edges.edge(noTag, "too large",
        (tags + "CALL 0 0 6 ! Argument; CALL 0 0 MAX ! Argument; CALL 0 0 5").replace("CALL", name));
    edges.edge(noTag, "without hits",
        (tags + "ask w 9 0 0 1; CALL 0 1 -1 ! Argument; CALL 0 1 6 ! Argument").replace("CALL", name));
  }

  private static void addWholes(Edges edges) {
    edges.in("Promise 30: wholes");
    String of = "Returns the number of documents of a view that are the whole of some hit.";
    edges.edge(of, "none",
        "text 1; text 1; write; openView; ask w 1 0 0 1; wholes 0 0 = 0; ask w 9 0 0 1; wholes 0 1 = 0");
    edges.edge(of, "an empty view", "openView; ask w 1 0 0 1; wholes 0 0 = 0");
    edges.edge(of, "two parts of one whole are one",
        "text; part 0 0 1; part 0 0 1; write; openView; ask w 1 0 0 1; wholes 0 0 = 1");
    edges.edge(of, "a chain of 30: each but the last is a whole",
        chain() + "write; openView; ask w 1 0 0 1; wholes 0 0 = 29");
    edges.edge(of, "the whole need be no hit",
        "text 2; part 0 0 1; write; openView; ask w 1 0 0 1; wholes 0 0 = 1; hits 0 0 = 1");
    edges.edge(of, "the part must be a hit", "text 1; part 0 0 2; write; openView; ask w 1 0 0 1; wholes 0 0 = 0");
    edges.edge(of, "the whole must be in the view",
        "text; part 0 0 1; remove 0; write; openView; ask w 1 0 0 1; hits 0 0 = 1; wholes 0 0 = 0");
    edges.edge(of, "the part must be in the view",
        "text; write; openView; part 0 0 1; write; ask w 1 0 0 1; wholes 0 0 = 0; openView; wholes 1 0 = 1");
    edges.edge(of, "a whole of a whole is none of the part",
        "text; part 0 0 2; part 0 1 1; write; openView; ask w 1 0 0 1; wholes 0 0 = 1; wholeScore 0 0 1 = 40;"
            + "wholeScore 0 0 0 ! Element");
    addViewAndQuery(edges, NO_VIEW_OR_QUERY, "wholes", "", "");
    edges.in("Promise 31: wholeScore");
    String greatest = "Returns the greatest score of the hits whose whole a document is.";
    edges.edge(greatest, "of one", "text; part 0 0 1; write; openView; ask w 1 0 0 1; wholeScore 0 0 0 = 30");
    edges.edge(greatest, "the first one of three",
        "text; part 0 0 1 1; part 0 0 1; part 0 0 1 2; write; openView; ask w 1 0 0 1; wholeScore 0 0 0 = 41");
    edges.edge(greatest, "the last one of three",
        "text; part 0 0 1 2; part 0 0 1; part 0 0 1 1; write; openView; ask w 1 0 0 1; wholeScore 0 0 0 = 41");
    edges.edge(greatest, "not the greatest rank",
        "text; part 0 0 1; part 0 0 1 2; write; openView; ask w 1 0 0 1; setBound 9; 9x click 2; hit 0 0 0 = 2;"
            + "wholeScore 0 0 0 = 26");
    edges.edge(greatest, "not its own score",
        "text 1; part 0 0 1 2 3; write; openView; ask w 1 0 0 1; wholeScore 0 0 0 = 14");
    addViewAndQuery(edges, NOT_IN_VIEW, "wholeScore", " 0", " 1");
    addNotInView(edges, "wholeScore");
    String none = "Throws `NoSuchElementException` if it is the whole of no hit";
    edges.edge(none, "it is no whole",
        "text 1; text 1; write; openView; ask w 1 0 0 1; wholeScore 0 0 0 ! Element; wholeScore 0 0 1 ! Element");
    edges.edge(none, "its part does not match",
        "text 1; part 0 0 2; write; openView; ask w 1 0 0 1; wholeScore 0 0 0 ! Element; ask w 2 0 0 1;"
            + "wholeScore 0 1 0 = 30");
    edges.edge(none, "its part is not in the view",
        "text; part 0 0 1; write; remove 1; openView; ask w 1 0 0 1; wholeScore 0 0 0 ! Element");
    edges.edge(none, "its part was written later",
        "text; write; openView; part 0 0 1; write; ask w 1 0 0 1; wholeScore 0 0 0 ! Element");
    edges.edge(none, "there are no hits",
        "text 1; part 0 0 1; write; openView; ask w 9 0 0 1; wholeScore 0 0 0 ! Element");
  }

  private static String chain() {
    StringBuilder script = new StringBuilder();
    for (int document = 0; document < 30; document++) script.append("part 0 ").append(document - 1).append(" 1;");
    return script.toString();
  }

  private static void addClicks(Edges edges) {
    edges.in("Promise 33: click");
    edges.edge("Returns the number of its clicks.", "from 1 on, each document for itself",
        "2x text; click 0 = 1; click 0 = 2; click 1 = 1; click 0 = 3");
    edges.edge("Returns the number of its clicks.", "499 of them, beyond the bound",
        "text; setBound 1; 498x click 0; click 0 = 499");
    edges.edge("Returns the number of its clicks.", "of a removed and of a lost one",
        "text; remove 0; click 0 = 1; crash; click 0 = 2");
    String noDocument = "Throws `IndexOutOfBoundsException` if there is no such document";
    edges.edge(noDocument, "in an empty store", "click 0 ! Index; click -1 ! Index; text; click 0 = 1");
    edges.edge(noDocument, "too small", "text; click -1 ! Index; click MIN ! Index; click 0 = 1");
    edges.edge(noDocument, "too large", "2x text; click 2 ! Index; click MAX ! Index; click 1 = 1");
    edges.edge(noDocument, "an open text is none yet", "open 0 -1; click 0 ! Index; close; click 0 = 1");
    edges.edge(noDocument, "beyond the 30th", "30x text; click 30 ! Index; click 29 = 1");
  }

  private static void addBound(Edges edges) {
    edges.in("Promise 34: setBound");
    edges.edge("- `bound`: the bound, 0 to 999", "0 and 999",
        "setBound 999 = 0; setBound 0 = 999; setBound 0 = 0; setBound 1 = 0; setBound 998 = 1");
    edges.edge("Returns the bound before.", "the same one again", "setBound 7 = 0; setBound 7 = 7; setBound 8 = 7");
    String range = "Throws `IllegalArgumentException` if it is out of range";
    edges.edge(range, "too small", "setBound 5; setBound -1 ! Argument; setBound MIN ! Argument; setBound 0 = 5");
    edges.edge(range, "too large", "setBound 5; setBound 1000 ! Argument; setBound MAX ! Argument; setBound 999 = 5");
    edges.edge(range, "it changes no order",
        "text 1 2; text 1; write; openView; ask w 1 0 0 1; 9x click 0; setBound 1000 ! Argument; hit 0 0 0 = 1;"
            + "setBound 9; setBound -1 ! Argument; hit 0 0 0 = 0");
  }

  private static void addTurned(Edges edges) {
    edges.in("Promise 35: turned");
    String couples = "Returns the number of couples, of hits with unlike scores.";
    edges.edge(couples, "no hits", "openView; ask w 1 0 0 1; turned 0 0 = 0");
    edges.edge(couples, "one hit", "text 1; write; openView; ask w 1 0 0 1; setBound 9; click 0; turned 0 0 = 0");
    edges.edge(couples, "without clicks",
        "text 1 2; text 1; text 1 2 3; write; openView; ask w 1 0 0 1; turned 0 0 = 0");
    edges.edge(couples, "like scores",
        "text 1; text 1; write; openView; ask w 1 0 0 1; setBound 9; click 1; hit 0 0 0 = 1; turned 0 0 = 0");
    // Of three, all match and score 20, 16 and 14.
    String three = "text 1; text 1 2; text 1 2 3; write; openView; ask w 1 0 0 1; setBound 999;";
    edges.edge(couples, "like ranks stand by their numbers, as by their scores",
        three + "4x click 1; turned 0 0 = 0; click 1; turned 0 0 = 1");
    edges.edge(couples, "like ranks that stand the other way round",
        "text 1 2; text 1; write; openView; ask w 1 0 0 1; setBound 9; 4x click 0; hit 0 0 0 = 0; turned 0 0 = 1");
    edges.edge(couples, "one is ahead of two", three + "9x click 2; hit 0 0 0 = 2; turned 0 0 = 2");
    edges.edge(couples, "all three couples",
        three + "99x click 2; 50x click 1; hit 0 0 0 = 2; hit 0 0 1 = 1; turned 0 0 = 3");
    edges.edge(couples, "the same clicks on all", three + "5x click 0; 5x click 1; 5x click 2; turned 0 0 = 0");
    edges.edge(couples, "a bound of 0", three + "99x click 2; setBound 0; turned 0 0 = 0");
    edges.edge(couples, "15 behind 15",
        "15x text 1; 15x text 1 2; write; openView; ask w 1 0 0 1; setBound 9; " + clicksOnLast15()
            + "turned 0 0 = 225");
    addViewAndQuery(edges, NO_VIEW_OR_QUERY, "turned", "", "");
  }

  /** Five clicks turn a score of 16 and one of 20. */
  private static String clicksOnLast15() {
    StringBuilder script = new StringBuilder();
    for (int document = 15; document < 30; document++) script.append("5x click ").append(document).append(';');
    return script.toString();
  }
}
