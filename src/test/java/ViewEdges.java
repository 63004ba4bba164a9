/** Boundary cases of views: promises 19 to 21 and 37. */
final class ViewEdges {
  private ViewEdges() {
  }

  static void addTo(Edges edges) {
    addViews(edges);
    addOpenView(edges);
    addCloseView(edges);
    addSeen(edges);
    addMeanLength(edges);
  }

  private static void addViews(Edges edges) {
    edges.in("Terms");
    String has = "A view has the documents that were in segments and not removed when it was opened.";
    edges.edge(has, "none", "openView; seen 0 = 0; text; openView; seen 1 = 0");
    edges.edge(has, "written just ahead, and just behind",
        "text; write; openView; text; write; seen 0 = 1; openView; seen 1 = 2");
    edges.edge(has, "removed just ahead, and just behind",
        "2x text; write; remove 0; openView; remove 1; seen 0 = 1; scoreAlone 0 0 0 ! Index; openView; seen 1 = 0");
    edges.edge(has, "all 30", "30x text; write; openView; seen 0 = 30");
    edges.edge(has, "of several segments", "text; write; 2x text; write; openView; seen 0 = 3");
    String stays = "It stays as it was, whatever is removed, merged or written later.";
    String open = "text 1; text 1 2; write; text 1; write; openView; ask w 1 0 0 1; hits 0 0 = 3; score 0 0 0 = 20;";
    edges.edge(stays, "all are removed",
        open + "remove 0; remove 1; remove 2; seen 0 = 3; hits 0 0 = 3; hit 0 0 0 = 0; score 0 0 0 = 20");
    edges.edge(stays, "all are removed and merged away",
        open + "remove 0; remove 1; remove 2; merge 0 = 3; seen 0 = 3; hits 0 0 = 3; meanLength 0 = 4/3");
    edges.edge(stays, "none is removed and all are merged",
        open + "merge 0 = 0; seen 0 = 3; hits 0 0 = 3; score 0 0 2 = 16");
    edges.edge(stays, "another one is written",
        open + "text 1; write; seen 0 = 3; hits 0 0 = 3; score 0 0 0 = 20; scoreAlone 0 0 3 ! Index");
    edges.edge(stays, "a commit", open + "text 1; commit; seen 0 = 3; hits 0 0 = 3");
    edges.edge(stays, "another view is opened and closed",
        open + "remove 0; openView; seen 1 = 2; closeView 1; seen 0 = 3; hits 0 0 = 3");
    String four = "At most 4 views are open; views are numbered from 0, as they are opened.";
    edges.edge(four, "four, not five",
        "openView = 0; openView = 1; openView = 2; openView = 3; openView ! State; seen 3 = 0");
    edges.edge(four, "no number is given again",
        "openView = 0; closeView 0; openView = 1; closeView 1; openView = 2; seen 0 ! Index");
    edges.edge(four, "a refused one takes no number", "4x openView; 2x openView ! State; closeView 0; openView = 4");
    edges.edge(four, "a crash takes no number back", "4x openView; crash; openView = 4");
  }

  private static void addOpenView(Edges edges) {
    edges.in("Promise 19: openView");
    String full = "Throws `IllegalStateException` if 4 views are open";
    edges.edge(full, "three are not four", "3x openView; openView = 3; openView ! State");
    edges.edge(full, "closing one makes room for one",
        "4x openView; openView ! State; closeView 3 = 3; openView = 4; openView ! State");
    edges.edge(full, "a crash makes room for four", "4x openView; crash; 3x openView; openView = 7; openView ! State");
    edges.edge(full, "the four stay as they were",
        "text 1; write; 4x openView; remove 0; openView ! State; seen 0 = 1; seen 3 = 1");
  }

  private static void addCloseView(Edges edges) {
    edges.in("Promise 20: closeView");
    edges.edge("Returns the number of views that are open.", "from four down to none",
        "4x openView; closeView 2 = 3; closeView 0 = 2; closeView 3 = 1; closeView 1 = 0");
    String closed = "Throws `IndexOutOfBoundsException` if there is no such view that is open";
    edges.edge(closed, "none was opened", "closeView 0 ! Index; closeView -1 ! Index; openView = 0");
    edges.edge(closed, "too small", "openView; closeView -1 ! Index; closeView MIN ! Index; closeView 0 = 0");
    edges.edge(closed, "too large", "openView; openView; closeView 2 ! Index; closeView MAX ! Index; closeView 1 = 1");
    edges.edge(closed, "it is closed",
        "openView; openView; closeView 0 = 1; closeView 0 ! Index; closeView 1 = 0; closeView 1 ! Index");
    edges.edge(closed, "a crash closed it", "openView; crash; closeView 0 ! Index");
    edges.edge(closed, "a number is no place among those that are open",
        "4x openView; closeView 0; openView; closeView 0 ! Index; closeView 4 = 3");
  }

  private static void addSeen(Edges edges) {
    edges.in("Promise 21: seen");
    String closed = "Throws `IndexOutOfBoundsException` if there is no such view that is open";
    edges.edge(closed, "none was opened", "seen 0 ! Index; seen -1 ! Index");
    edges.edge(closed, "too small", "text; write; openView; seen -1 ! Index; seen MIN ! Index; seen 0 = 1");
    edges.edge(closed, "too large", "openView; text; write; openView; seen 2 ! Index; seen MAX ! Index; seen 1 = 1");
    edges.edge(closed, "it is closed", "openView; text; write; openView; closeView 0; seen 0 ! Index; seen 1 = 1");
    edges.edge(closed, "a crash closed it", "openView; crash; seen 0 ! Index; openView; seen 0 ! Index; seen 1 = 0");
  }

  private static void addMeanLength(Edges edges) {
    edges.in("Promise 37: meanLength");
    String mean = "Returns the sum of the lengths divided by the number of documents, both converted to double.";
    edges.edge(mean, "of one", "text 1 2; write; openView; meanLength 0 = 2/1");
    edges.edge(mean, "a quotient that is rounded", "text 1; text 1; text 1 2; write; openView; meanLength 0 = 4/3");
    edges.edge(mean, "of empty ones", "text; text; write; openView; meanLength 0 = 0/2");
    edges.edge(mean, "of 30, one of them of twelve words",
        "text 1 1 1 1 1 1 1 1 1 1 1 1; 29x text; write; openView; meanLength 0 = 12/30");
    edges.edge(mean, "removed later: counted", "text 1 2; text; write; openView; remove 0; meanLength 0 = 2/2");
    edges.edge(mean, "removed ahead, in the buffer, written later: not counted",
        "text 1 2; text 1; write; remove 0; text 1; openView; write; meanLength 0 = 1/1");
    String closed = "Throws `IndexOutOfBoundsException` if there is no such view that is open";
    edges.edge(closed, "none was opened", "meanLength 0 ! Index; meanLength -1 ! Index");
    edges.edge(closed, "too small",
        "text 1; write; openView; meanLength -1 ! Index; meanLength MIN ! Index; meanLength 0 = 1/1");
    edges.edge(closed, "too large",
        "text 1; write; openView; meanLength 1 ! Index; meanLength MAX ! Index; meanLength 0 = 1/1");
    edges.edge(closed, "it is closed, with and without documents",
        "openView; closeView 0; meanLength 0 ! Index; text 1; write; openView; closeView 1; meanLength 1 ! Index");
    edges.edge(closed, "a crash closed it", "text 1; commit; openView; crash; meanLength 0 ! Index");
    String none = "Throws `ArithmeticException` if it has none";
    edges.edge(none, "an empty store", "openView; meanLength 0 ! Arithmetic");
    edges.edge(none, "a buffer alone",
        "text 1; openView; meanLength 0 ! Arithmetic; write; meanLength 0 ! Arithmetic; openView; meanLength 1 = 1/1");
    edges.edge(none, "all were removed", "text 1; write; remove 0; openView; meanLength 0 ! Arithmetic");
  }
}
