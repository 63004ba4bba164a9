/** Boundary cases of documents: promises 4 to 10. */
final class DocumentEdges {
  private DocumentEdges() {
  }

  static void addTo(Edges edges) {
    addDocuments(edges);
    addOpen(edges);
    addOpenRefusals(edges);
    addAddWord(edges);
    addClose(edges);
    addRemove(edges);
    addState(edges);
    addLengthAndStanding(edges);
  }

  private static void addDocuments(Edges edges) {
    edges.in("Terms");
    String numbered = "At most 30 documents are numbered from 0, as they are closed.";
    edges.edge(numbered, "the 30th, not a 31st",
        "text 1 = 0; 28x text 1; text 1 = 29; open 0 -1 ! State; state 29 = b; state 30 ! Index");
    edges.edge(numbered, "none is numbered by opening alone", "open 0 -1 = 0; state 0 ! Index; close = 0; state 0 = b");
    edges.edge(numbered, "a lost text has no number", "text; open 0 -1 = 1; crash; open 0 -1 = 1; close = 1");
    edges.edge(numbered, "a removed one keeps its number", "text; remove 0; text = 1; write; text = 2; state 0 = r");
    edges.edge(numbered, "a lost one keeps its number", "text; crash; text = 1; state 0 = l; state 1 = b");
    edges.edge(numbered, "removed and lost ones make no room",
        "30x text; remove 0; write; open 0 -1 ! State; crash; open 0 -1 ! State");
    String has =
        "A document has a text that went through the steps as they were when it was closed, a tag from 0 to 5, and "
            + "perhaps a whole, which is an earlier document.";
    edges.edge(has, "a step told just ahead of the closing",
        "open 0 -1; addWord 31; addStep l 0 0; close; standing 0 0 1 = 1");
    edges.edge(has, "a step told just behind the closing",
        "text 31; addStep l 0 0; standing 0 0 31 = 1; commit; standing 0 0 31 = 1");
    edges.edge(has, "steps dropped just ahead of the closing",
        "addStep l 0 0; open 0 -1; addWord 31; dropSteps; close; standing 0 0 31 = 1");
    edges.edge(has, "steps dropped just behind the closing", "addStep l 0 0; text 31; dropSteps; standing 0 0 1 = 1");
    edges.edge(has, "the tags 0 and 5, none beside them",
        "open -1 -1 ! Argument; part 0 -1 1; part 5 -1 1; open 6 -1 ! Argument; write; openView; ask w 1 0 0 1;"
            + "tagged 0 0 0 = 1; tagged 0 0 5 = 1; firstTagged 0 0 5 = 1");
    edges.edge(has, "the whole is the one just ahead, not itself",
        "text 1; open 0 1 ! Index; part 0 0 1 = 1; write; openView; ask w 1 0 0 1; wholes 0 0 = 1");
    edges.edge(has, "no whole",
        "text 1; part 0 -1 1; write; openView; ask w 1 0 0 1; wholes 0 0 = 0; wholeScore 0 0 0 ! Element");
    String length = "Its length is the number of words that came out.";
    edges.edge(length, "none came out", "addStep s 1 0; text 1 1; length 0 = 0");
    edges.edge(length, "more than twelve came out", "addStep y 1 2; text 1 1 1 1 1 1 1 1 1 1 1 1; length 0 = 24");
    edges.edge(length, "two of the same word at one place are two",
        "addStep y 1 31; addStep l 0 0; text 1; length 0 = 2");
    String buffer = "A document is in the buffer first.";
    edges.edge(buffer, "it is in no segment and no view",
        "text 1; state 0 = b; segments = 0; openView; seen 0 = 0; removedShare ! Arithmetic; remove 0 = b");
  }

  private static void addOpen(Edges edges) {
    edges.in("Promise 4: open");
    String empty = "Opens a text, which is empty.";
    edges.edge(empty, "the first one", "open 0 -1; close; length 0 = 0");
    edges.edge(empty, "behind a full one",
        "text 1 1 1 1 1 1 1 1 1 1 1 1; open 0 -1; addWord 2 = 1; close; length 1 = 1");
    edges.edge(empty, "behind a lost one",
        "open 0 -1; addWord 1; crash; open 0 -1; addWord 2 = 1; close; length 0 = 1; standing 0 0 2 = 1");
    String tag = "- `tag`: its tag, 0 to 5";
    edges.edge(tag, "each one",
        "part 0 -1 = 0; part 1 -1 = 1; part 2 -1 = 2; part 3 -1 = 3; part 4 -1 = 4; part 5 -1 = 5");
    String whole = "- `whole`: the number of its whole, or -1";
    edges.edge(whole, "-1 in an empty store", "open 0 -1 = 0");
    edges.edge(whole, "the first and the last document", "3x text; part 0 0 = 3; part 0 3 = 4");
    edges.edge(whole, "a removed one", "text; remove 0; open 0 0 = 1");
    edges.edge(whole, "a lost one", "text; crash; open 0 0 = 1");
    edges.edge(whole, "the same one twice",
        "text 1; part 0 0 1; part 0 0 1; write; openView; ask w 1 0 0 1; wholes 0 0 = 1");
    String number = "Returns the number that it would get if it were closed now.";
    edges.edge(number, "from 0 on", "open 0 -1 = 0; close = 0; open 0 -1 = 1; close = 1");
    edges.edge(number, "the last one", "29x text; open 0 -1 = 29; close = 29");
  }

  private static void addOpenRefusals(Edges edges) {
    edges.in("Promise 4: open");
    String noTag = "Throws `IllegalArgumentException` if there is no such tag";
    edges.edge(noTag, "too small", "open -1 -1 ! Argument; open MIN -1 ! Argument; open 0 -1 = 0");
    edges.edge(noTag, "too large", "open 6 -1 ! Argument; open MAX -1 ! Argument; open 5 -1 = 0");
    edges.edge(noTag, "it comes ahead of a wrong whole",
        "open 6 0 ! Argument; open -1 -2 ! Argument; open 5 0 ! Index");
    edges.edge(noTag, "it comes ahead of an open text", "open 0 -1; addWord 3; open 6 -1 ! Argument; addWord 4 = 2");
    edges.edge(noTag, "it comes ahead of 30 documents", "30x text; open -1 -1 ! Argument; open 0 -1 ! State");
    String noWhole = "Throws `IndexOutOfBoundsException` if there is no such document";
    edges.edge(noWhole, "below -1", "text; open 0 -2 ! Index; open 0 MIN ! Index; open 0 -1 = 1");
    edges.edge(noWhole, "in an empty store", "open 0 0 ! Index; open 0 1 ! Index; open 0 -1 = 0");
    edges.edge(noWhole, "its own number", "text; open 0 1 ! Index; open 0 MAX ! Index; open 0 0 = 1");
    edges.edge(noWhole, "it comes ahead of an open text",
        "text; open 1 -1; open 0 1 ! Index; open 0 -2 ! Index; open 0 0 ! State; close = 1");
    edges.edge(noWhole, "it comes ahead of 30 documents",
        "30x text; open 0 30 ! Index; open 0 -2 ! Index; open 0 29 ! State");
    String state = "Throws `IllegalStateException` if a text is open, or there are 30 documents";
    edges.edge(state, "a text is open",
        "open 2 -1; addWord 3; open 0 -1 ! State; addWord 4 = 2; close = 0; length 0 = 2; open 0 -1 = 1");
    edges.edge(state, "an empty text is open", "open 2 -1; open 3 -1 ! State; close = 0");
    edges.edge(state, "the open text keeps its tag and its whole",
        "text 1; text 1; open 2 1; open 3 0 ! State; addWord 1; close; write; openView; ask w 1 0 0 1;"
            + "tagged 0 0 2 = 1; tagged 0 0 3 = 0; wholeScore 0 0 0 ! Element; wholeScore 0 0 1 = 20");
    edges.edge(state, "29 documents are not 30", "29x text; open 0 28 = 29; close = 29; open 0 -1 ! State");
    edges.edge(state, "no text is open behind a refused one",
        "30x text; open 0 -1 ! State; addWord 1 ! State; close ! State");
    edges.edge(noWhole, "no text is open behind a refused one", "open 0 0 ! Index; addWord 1 ! State; close ! State");
    edges.edge(state, "a write leaves it open, a crash does not",
        "open 0 -1; write = 0; open 0 -1 ! State; crash; open 0 -1 = 0");
  }

  private static void addAddWord(Edges edges) {
    edges.in("Promise 5: addWord");
    edges.edge("Returns the number of words.", "from 1 to 12, the same word too",
        "open 0 -1; addWord 4 = 1; addWord 4 = 2; addWord 4 = 3; 8x addWord 5; addWord 4 = 12");
    edges.edge("Returns the number of words.", "no step has been gone through yet",
        "addStep s 4 0; open 0 -1; addWord 4 = 1; addWord 4 = 2; close; length 0 = 0");
    String noWord = "Throws `IllegalArgumentException` if there is no such word";
    edges.edge(noWord, "too small",
        "open 0 -1; addWord -1 ! Argument; addWord MIN ! Argument; addWord 0 = 1; close; length 0 = 1");
    edges.edge(noWord, "too large",
        "open 0 -1; addWord 60 ! Argument; addWord MAX ! Argument; addWord 59 = 1; close; length 0 = 1");
    edges.edge(noWord, "it comes ahead of no open text",
        "addWord -1 ! Argument; addWord 60 ! Argument; addWord 59 ! State");
    edges.edge(noWord, "it comes ahead of a full text",
        "open 0 -1; 12x addWord 1; addWord 60 ! Argument; addWord -1 ! Argument; addWord 0 ! State");
    String state = "Throws `IllegalStateException` if no text is open, or it has 12 words";
    edges.edge(state, "none was opened", "addWord 0 ! State; open 0 -1 = 0; addWord 0 = 1");
    edges.edge(state, "it was closed", "text 1; addWord 2 ! State; length 0 = 1");
    edges.edge(state, "it was lost", "open 0 -1; addWord 1; crash; addWord 2 ! State");
    edges.edge(state, "a refused open opened none", "open 6 -1 ! Argument; addWord 1 ! State");
    edges.edge(state, "11 words are not 12", "open 0 -1; 11x addWord 1; addWord 2 = 12");
    edges.edge(state, "12 words are",
        "open 0 -1; 12x addWord 1; 2x addWord 2 ! State; close; length 0 = 12; standing 0 12 2 = 0");
    edges.edge(state, "12 words are, though none will come out",
        "addStep s 1 0; open 0 -1; 12x addWord 1; addWord 2 ! State; close; length 0 = 0");
  }

  private static void addClose(Edges edges) {
    edges.in("Promise 6: close");
    edges.edge("Closes the open text: it is a document in the buffer.", "an empty one, too",
        "open 0 -1; close = 0; state 0 = b; write = 1; size 0 = 1");
    edges.edge("Returns the number of the document.", "the first and the last", "text = 0; 28x text; text = 29");
    String none = "Throws `IllegalStateException` if no text is open";
    edges.edge(none, "none was opened", "close ! State; state 0 ! Index; open 0 -1 = 0");
    edges.edge(none, "it was closed", "text = 0; close ! State; open 0 -1 = 1");
    edges.edge(none, "it was lost", "open 0 -1; crash; close ! State; state 0 ! Index");
    edges.edge(none, "a commit leaves it open", "open 0 -1; commit; close = 0; close ! State");
  }

  private static void addRemove(Edges edges) {
    edges.in("Promise 7: remove");
    String from = "Returns 'b' from the buffer, 's' from a segment.";
    edges.edge(from, "just ahead of the writing", "text; remove 0 = b; state 0 = r; write = 0");
    edges.edge(from, "just behind the writing", "text; write; remove 0 = s; state 0 = r; size 0 = 1");
    edges.edge(from, "the last one", "30x text; remove 29 = b; write = 29; remove 28 = s");
    edges.edge(from, "of a merged segment", "text; write; text; write; merge 0; remove 0 = s; remove 1 = s");
    edges.edge(from, "one that came back", "text; commit; remove 0 = s; crash; remove 0 = s");
    String noDocument = "Throws `IndexOutOfBoundsException` if there is no such document";
    edges.edge(noDocument, "in an empty store", "remove 0 ! Index; remove -1 ! Index");
    edges.edge(noDocument, "too small", "text; remove -1 ! Index; remove MIN ! Index; remove 0 = b");
    edges.edge(noDocument, "too large", "text; text; remove 2 ! Index; remove MAX ! Index; remove 1 = b");
    edges.edge(noDocument, "beyond the 30th", "30x text; remove 30 ! Index; remove 29 = b");
    edges.edge(noDocument, "an open text is none yet", "open 0 -1; remove 0 ! Index; close; remove 0 = b");
    String gone = "Throws `IllegalStateException` if it is removed or lost";
    edges.edge(gone, "removed from the buffer", "text; remove 0; remove 0 ! State; write = 0; remove 0 ! State");
    edges.edge(gone, "removed from a segment", "text; write; remove 0; remove 0 ! State; removedShare = 1/1");
    edges.edge(gone, "removed and merged away",
        "text; write; text; write; remove 0; merge 0 = 1; remove 0 ! State; remove 1 = s");
    edges.edge(gone, "removed by the last commit", "text; commit; remove 0; commit; crash; remove 0 ! State");
    edges.edge(gone, "lost from the buffer", "text; crash; remove 0 ! State; state 0 = l");
    edges.edge(gone, "lost from a segment", "text; write; crash; remove 0 ! State; state 0 = l");
    edges.edge(gone, "lost after it was removed", "text; remove 0; crash; remove 0 ! State; state 0 = l");
  }

  private static void addState(Edges edges) {
    edges.in("Promise 8: state");
    String state = "Returns 'b' in the buffer, 's' in a segment, 'r' removed, 'l' lost.";
    edges.edge(state, "b, until it is written", "text; state 0 = b; write; state 0 = s");
    edges.edge(state, "b, until a commit", "text; state 0 = b; commit; state 0 = s");
    edges.edge(state, "s stays in a merge", "text; write; text; write; merge 0; state 0 = s; state 1 = s");
    edges.edge(state, "r stays in a write and a merge",
        "text; text; remove 0; write; state 0 = r; text; write; remove 1; merge 0; state 1 = r");
    edges.edge(state, "l stays in a commit and a crash",
        "text; crash; state 0 = l; commit; state 0 = l; crash; state 0 = l");
    String noDocument = "Throws `IndexOutOfBoundsException` if there is no such document";
    edges.edge(noDocument, "in an empty store", "state 0 ! Index; state -1 ! Index");
    edges.edge(noDocument, "too small", "text; state -1 ! Index; state MIN ! Index; state 0 = b");
    edges.edge(noDocument, "too large", "text; text; state 2 ! Index; state MAX ! Index; state 1 = b");
    edges.edge(noDocument, "an open text is none yet", "open 0 -1; state 0 ! Index; close; state 0 = b");
    edges.edge(noDocument, "beyond the 30th", "30x text; state 30 ! Index; state 29 = b");
  }

  private static void addLengthAndStanding(Edges edges) {
    edges.in("Promise 9: length");
    String noDocument = "Throws `IndexOutOfBoundsException` if there is no such document";
    edges.edge("Returns the length.", "0 and 12", "text; text 1 1 1 1 1 1 1 1 1 1 1 1; length 0 = 0; length 1 = 12");
    edges.edge("Returns the length.", "of a removed and of a lost one",
        "text 1 2; remove 0; length 0 = 2; crash; length 0 = 2");
    edges.edge(noDocument, "in an empty store", "length 0 ! Index; length -1 ! Index");
    edges.edge(noDocument, "too small", "text 1; length -1 ! Index; length MIN ! Index; length 0 = 1");
    edges.edge(noDocument, "too large", "text; text 1; length 2 ! Index; length MAX ! Index; length 1 = 1");
    edges.edge(noDocument, "an open text is none yet", "open 0 -1; addWord 1; length 0 ! Index; close; length 0 = 1");
    edges.edge(noDocument, "beyond the 30th", "30x text; length 30 ! Index; length 29 = 0");
    edges.in("Promise 10: standing");
    edges.edge("Returns the number of times.", "no such place",
        "text 1 2; standing 0 -1 1 = 0; standing 0 2 2 = 0; standing 0 MIN 1 = 0; standing 0 MAX 2 = 0");
    edges.edge("Returns the number of times.", "no such word",
        "text 0 59; standing 0 0 -1 = 0; standing 0 1 60 = 0; standing 0 0 MIN = 0; standing 0 1 MAX = 0");
    edges.edge("Returns the number of times.", "0 in an empty text", "text; standing 0 0 0 = 0; standing 0 1 0 = 0");
    edges.edge("Returns the number of times.", "twice",
        "addStep y 1 31; addStep l 0 0; text 1; standing 0 0 1 = 2; standing 0 0 31 = 0");
    edges.edge("Returns the number of times.", "of a removed and of a lost one",
        "text 1; remove 0; standing 0 0 1 = 1; crash; standing 0 0 1 = 1");
    edges.edge(noDocument, "in an empty store", "standing 0 0 0 ! Index; standing -1 -1 -1 ! Index");
    edges.edge(noDocument, "too small",
        "text 1; standing -1 0 1 ! Index; standing MIN 0 1 ! Index; standing 0 0 1 = 1");
    edges.edge(noDocument, "too large",
        "text; text 1; standing 2 0 1 ! Index; standing MAX 0 1 ! Index; standing 1 0 1 = 1");
    edges.edge(noDocument, "an open text is none yet",
        "open 0 -1; addWord 1; standing 0 0 1 ! Index; close; standing 0 0 1 = 1");
    edges.edge(noDocument, "beyond the 30th", "30x text 7; standing 30 0 7 ! Index; standing 29 0 7 = 1");
  }
}
