/** Boundary cases of marked, promise 32, and of the exceptions of all calls. */
final class MarkEdges {
  private MarkEdges() {
  }

  static void addTo(Edges edges) {
    addMarks(edges);
    addMarksOfTwo(edges);
    addMarkedRefusals(edges);
    addExceptions(edges);
  }

  private static void addMarks(Edges edges) {
    edges.in("Promise 32: marked");
    String number = "- `number`: the number of the index, by rising ones, each once, from 0";
    edges.edge(number, "the first and the last word",
        "text 1 2 2 2 2 2 2 2 2 2 2 1; ask w 1 0 0 1; marked 0 0 0 = 0; marked 0 0 1 = 11; marked 0 0 2 ! Element");
    edges.edge(number, "all twelve",
        "text 1 1 1 1 1 1 1 1 1 1 1 1; ask w 1 0 0 1; marked 0 0 0 = 0; marked 0 0 11 = 11; marked 0 0 12 ! Element");
    edges.edge(number, "each once, though the word stands there twice",
        "addStep y 1 31; addStep l 0 0; text 2 1; ask w 1 0 0 1; marked 0 0 0 = 1; marked 0 0 1 ! Element");
    edges.edge(number, "each once, though two queries name it",
        "text 1 2; ask w 1 0 0 1; ask p 1 2 0 1; join o 0 1; marked 2 0 0 = 0; marked 2 0 1 = 1;"
            + "marked 2 0 2 ! Element");
    edges.edge(number, "by rising ones, though the places fall",
        "addStep y 3 33; addStep l 0 0; addStep c 3 0; text 1 3 1; ask w 1 0 0 1; marked 0 0 0 = 0; marked 0 0 1 = 2");
    edges.edge(number, "by rising ones, though the second query names the lower one",
        "text 1 2; ask w 2 0 0 1; ask w 1 0 0 1; join a 0 1; marked 2 0 0 = 0; marked 2 0 1 = 1");
    String those =
        "those of the words that make a match of a query of words, of which the whole query is made, whether the "
            + "document matches the whole one or not; but not those of the second query of 'x'.";
    edges.edge(those, "a phrase: both words, no other ones",
        "text 1 3 1 2 1; ask p 1 2 0 1; marked 0 0 0 = 2; marked 0 0 1 = 3; marked 0 0 2 ! Element");
    edges.edge(those, "a phrase of one word",
        "text 1 1 1 2 1; ask p 1 1 0 1; marked 0 0 2 = 2; marked 0 0 3 ! Element");
    edges.edge(those, "no phrase: none of its words", "text 2 1; ask p 1 2 0 1; marked 0 0 0 ! Element");
    edges.edge(those, "near ones at the distance, not beyond it",
        "text 1 3 3 2 3 3 3 1; ask n 1 2 3 1; marked 0 0 0 = 0; marked 0 0 1 = 3; marked 0 0 2 ! Element;"
            + "ask n 1 2 4 1; marked 1 0 2 = 7");
    edges.edge(those, "near ones in the other order",
        "text 2 1; ask n 1 2 1 1; marked 0 0 0 = 0; marked 0 0 1 = 1; marked 0 0 2 ! Element");
    edges.edge(those, "near ones of one word",
        "text 1 3 1 3 3 1; ask n 1 1 2 1; marked 0 0 0 = 0; marked 0 0 1 = 2; marked 0 0 2 ! Element");
    edges.edge(those, "no near ones at the same place", "addStep y 1 2; text 1; ask n 1 2 9 1; marked 0 0 0 ! Element");
    edges.edge(those, "the index in the first text, not the place",
        "addStep c 5 0; text 5 5 1 5 2; ask p 1 2 0 1; marked 0 0 0 = 2; marked 0 0 1 = 4");
    edges.edge(those, "the word that was put has the index of the other one",
        "addStep y 1 9; text 3 1; ask w 9 0 0 1; marked 0 0 0 = 1; ask p 3 9 0 1; marked 1 0 0 = 0; marked 1 0 1 = 1");
    edges.edge(those, "all words at a place of a match",
        "addStep y 5 35; addStep l 0 0; addStep c 5 0; text 7 5 7 8; ask p 7 8 0 1; marked 0 0 0 = 0;"
            + "marked 0 0 1 = 2; marked 0 0 2 = 3");
  }

  private static void addMarksOfTwo(Edges edges) {
    edges.in("Promise 32: marked");
    String those = "whether the document matches the whole one or not; but not those of the second query of 'x'.";
    String words = "text 1 2 3; ask w 1 0 0 1; ask w 2 0 0 1; ask w 9 0 0 1;";
    edges.edge(those, "a that does not match: the one that does is marked",
        words + "join a 0 2; marked 3 0 0 = 0; marked 3 0 1 ! Element");
    edges.edge(those, "o: both", words + "join o 1 0; marked 3 0 0 = 0; marked 3 0 1 = 1; marked 3 0 2 ! Element");
    edges.edge(those, "i that does not match: the wish is marked",
        words + "join i 2 1; marked 3 0 0 = 1; marked 3 0 1 ! Element");
    edges.edge(those, "x that does not match: the first is marked, not the second",
        words + "join x 0 1; marked 3 0 0 = 0; marked 3 0 1 ! Element");
    edges.edge(those, "x of a query with itself", words + "join x 0 0; marked 3 0 0 = 0; marked 3 0 1 ! Element");
    edges.edge(those, "x whose first names nothing", words + "join x 2 0; marked 3 0 0 ! Element");
    edges.edge(those, "nothing below the second one of x",
        words + "join o 0 1; join x 2 3; marked 4 0 0 ! Element; join x 0 3; marked 5 0 0 = 0;"
            + "marked 5 0 1 ! Element");
    edges.edge(those, "the second one of x, which is a part elsewhere",
        words + "join x 0 1; join o 3 1; marked 4 0 0 = 0; marked 4 0 1 = 1");
    edges.edge(those, "a query that was asked ahead leaves nothing",
        words + "join o 0 1; marked 3 0 1 = 1; marked 1 0 0 = 1; marked 1 0 1 ! Element; marked 2 0 0 ! Element");
    edges.edge(those, "x as the second one of x",
        words + "join x 0 1; join x 1 3; marked 4 0 0 = 1; marked 4 0 1 ! Element");
    edges.edge(those, "in the buffer, in a segment, removed and lost",
        "text 3 1; ask w 1 0 0 1; marked 0 0 0 = 1; write; marked 0 0 0 = 1; remove 0; marked 0 0 0 = 1; crash;"
            + "marked 0 0 0 = 1");
  }

  private static void addMarkedRefusals(Edges edges) {
    edges.in("Promise 32: marked");
    String none = "Throws `IndexOutOfBoundsException` if there is no such query or document";
    String two = "text 1; text 1; ask w 1 0 0 1; ask w 1 0 0 1;";
    edges.edge(none, "there is no query",
        "text 1; marked 0 0 0 ! Index; marked -1 0 0 ! Index; ask w 1 0 0 1; marked 0 0 0 = 0");
    edges.edge(none, "the query is too small", two + "marked -1 0 0 ! Index; marked MIN 0 0 ! Index; marked 0 0 0 = 0");
    edges.edge(none, "the query is too large", two + "marked 2 0 0 ! Index; marked MAX 0 0 ! Index; marked 1 0 0 = 0");
    edges.edge(none, "there is no document",
        "ask w 1 0 0 1; marked 0 0 0 ! Index; marked 0 -1 0 ! Index; open 0 -1; addWord 1; marked 0 0 0 ! Index;"
            + "close; marked 0 0 0 = 0");
    edges.edge(none, "the document is too small",
        two + "marked 0 -1 0 ! Index; marked 0 MIN 0 ! Index; marked 0 0 0 = 0");
    edges.edge(none, "the document is too large",
        two + "marked 0 2 0 ! Index; marked 0 MAX 0 ! Index; marked 0 1 0 = 0");
    edges.edge(none, "it comes ahead of no such number",
        two + "marked 2 0 9 ! Index; marked 0 2 9 ! Index; marked -1 0 -1 ! Index; marked 0 -1 -1 ! Index;"
            + "marked 0 0 9 ! Element");
    edges.edge(none, "the 40th query and the 30th document",
        "30x text 1; 40x ask w 1 0 0 1; marked 39 29 0 = 0; marked 40 29 0 ! Index; marked 39 30 0 ! Index");
    String number = "Throws `NoSuchElementException` if there is no such number";
    edges.edge(number, "too small", two + "marked 0 0 -1 ! Element; marked 0 0 MIN ! Element; marked 0 0 0 = 0");
    edges.edge(number, "too large", two + "marked 0 0 1 ! Element; marked 0 0 MAX ! Element; marked 0 0 0 = 0");
    edges.edge(number, "nothing is named",
        "text 1 3; ask w 2 0 0 1; marked 0 0 0 ! Element; marked 0 0 -1 ! Element; ask p 1 2 0 1;"
            + "marked 1 0 0 ! Element");
    edges.edge(number, "an empty text",
        "text; ask w 0 0 0 1; ask n 0 0 9 1; marked 0 0 0 ! Element; marked 1 0 0 ! Element");
    edges.edge(number, "nothing came out", "addStep s 1 0; text 1; ask w 1 0 0 1; marked 0 0 0 ! Element");
    edges.edge(number, "fewer than in the document ahead",
        "text 1 1; text 1; ask w 1 0 0 1; marked 0 0 1 = 1; marked 0 1 1 ! Element");
  }

  private static void addExceptions(Edges edges) {
    edges.in("Terms");
    String nothing = "A method that throws an exception changes nothing.";
    edges.edge(nothing, "refused calls among a run",
        "addStep l 0 0; addStep y 60 0 ! Argument; part 2 -1 31 7; open 6 0 ! Argument; open 0 1 ! Index; open 3 0;"
            + "open 4 0 ! State; addWord 60 ! Argument; addWord 7; close; close ! State; addWord 1 ! State;"
            + "remove 2 ! Index; write; merge 0 ! Index; size 1 ! Index; follow ! State; openView;"
            + "closeView 1 ! Index; ask w 60 0 0 1 ! Argument; ask w 7 0 0 1; join b 0 0 ! Argument;"
            + "join a 0 1 ! Index; join a 0 0; hit 0 1 2 ! Element; tagged 0 0 6 ! Argument;"
            + "wholeScore 0 0 1 ! Element; marked 0 0 1 ! Element; click 2 ! Index; setBound 1000 ! Argument;"
            + "hits 0 1 = 2; score 0 1 0 = 40; score 0 1 1 = 32; removedShare = 0/2; meanLength 0 = 3/2;"
            + "dropSteps = 1; setBound 1 = 0; click 0 = 1; commit = 1; follow = 2");
    edges.edge(nothing, "the same refused call again and again",
        "30x text 1; 9x open 0 -1 ! State; 9x remove 30 ! Index; 9x merge 0 ! Index; write = 30; state 29 = s");
    String first = "If several exceptions apply, the one that is documented first is thrown.";
    edges.edge(first, "addStep", "6x addStep l 0 0; addStep q 0 0 ! Argument; addStep c -1 0 ! Argument");
    edges.edge(first, "open: all three",
        "text; open 0 -1; open 6 1 ! Argument; open 6 0 ! Argument; open 5 1 ! Index; open 5 0 ! State");
    edges.edge(first, "addWord",
        "addWord 60 ! Argument; open 0 -1; 12x addWord 1; addWord 60 ! Argument; addWord 1 ! State");
    edges.edge(first, "ask",
        "40x ask w 0 0 0 1; ask q 0 0 0 1 ! Argument; ask w 0 0 0 0 ! Argument; ask w 0 0 0 1 ! State");
    edges.edge(first, "join: all three",
        "40x ask w 0 0 0 1; join q 40 40 ! Argument; join a 40 40 ! Index; join a 39 39 ! State");
    edges.edge(first, "hit and score",
        "openView; ask w 1 0 0 1; hit 0 1 0 ! Index; hit 1 0 0 ! Index; hit 0 0 0 ! Element; score 0 1 0 ! Index;"
            + "score 1 0 0 ! Index; score 0 0 0 ! Element");
    edges.edge(first, "tagged",
        "openView; ask w 1 0 0 1; tagged 1 0 6 ! Index; tagged 0 1 6 ! Index; tagged 0 0 6 ! Argument");
    edges.edge(first, "firstTagged: all three",
        "openView; ask w 1 0 0 1; firstTagged 1 0 6 ! Index; firstTagged 0 1 6 ! Index;"
            + "firstTagged 0 0 6 ! Argument; firstTagged 0 0 0 ! Element");
    edges.edge(first, "wholeScore",
        "text; write; openView; ask w 1 0 0 1; wholeScore 1 0 0 ! Index; wholeScore 0 1 0 ! Index;"
            + "wholeScore 0 0 1 ! Index; wholeScore 0 0 0 ! Element");
    edges.edge(first, "marked",
        "text; ask w 1 0 0 1; marked 1 0 0 ! Index; marked 0 1 0 ! Index; marked 0 0 0 ! Element");
    edges.edge(first, "meanLength", "openView; closeView 0; openView; meanLength 0 ! Index; meanLength 1 ! Arithmetic");
  }
}
