/** Boundary cases of a new object, words, texts and steps: promises 1 to 3. */
final class StepEdges {
  private StepEdges() {
  }

  static void addTo(Edges edges) {
    addUse(edges);
    addWordsAndTexts(edges);
    addStepKinds(edges);
    addClosingUp(edges);
    addPuttingBeside(edges);
    addNewObject(edges);
    addAddStep(edges);
    addDropSteps(edges);
  }

  private static void addUse(Edges edges) {
    edges.in("What it is");
    String use = "An object is used for at most 512 calls after it has been made";
    edges.edge(use, "the 512th answers", "510x setBound 7; setBound 8 = 7; setBound 9 = 8");
    edges.edge(use, "the 512th may be refused", "text 1; 508x click 0; state 1 ! Index");
  }

  private static void addWordsAndTexts(Edges edges) {
    edges.in("Terms");
    String word = "A word is from 0 to 59.";
    edges.edge(word, "0 in a text, none below",
        "open 0 -1; addWord -1 ! Argument; addWord 0 = 1; close; standing 0 0 0 = 1");
    edges.edge(word, "59 in a text, none above",
        "open 0 -1; addWord 60 ! Argument; addWord 59 = 1; close; standing 0 0 59 = 1");
    edges.edge(word, "in a step",
        "addStep s -1 0 ! Argument; addStep s 0 0 = 1; addStep s 59 0 = 2; addStep s 60 0 ! Argument");
    edges.edge(word, "in a query",
        "ask w -1 0 0 1 ! Argument; ask w 0 0 0 1 = 0; ask w 59 0 0 1 = 1; ask w 60 0 0 1 ! Argument");
    String text = "A text has at most 12 words, at the places from 0 on.";
    edges.edge(text, "no words", "open 0 -1; close = 0; length 0 = 0; standing 0 0 0 = 0");
    edges.edge(text, "one word", "text 7; length 0 = 1; standing 0 -1 7 = 0; standing 0 0 7 = 1; standing 0 1 7 = 0");
    edges.edge(text, "twelve words, not thirteen",
        "open 0 -1; addWord 5 = 1; 10x addWord 6; addWord 7 = 12; addWord 8 ! State; close; length 0 = 12;"
            + "standing 0 0 5 = 1; standing 0 11 7 = 1; standing 0 12 8 = 0");
    String steps = "At most 6 steps are told; the words of a text go through all of them, in their order.";
    edges.edge(steps, "no steps", "text 59 31; length 0 = 2; standing 0 0 59 = 1; standing 0 1 31 = 1");
    edges.edge(steps, "one step", "addStep m 0 0 = 1; text 3; standing 0 0 2 = 1");
    edges.edge(steps, "six in their order, not seven",
        "addStep y 0 1; addStep y 1 2; addStep y 2 3; addStep y 3 4; addStep y 4 5; addStep y 5 6 = 6;"
            + "addStep y 6 7 ! State; text 0; length 0 = 7; standing 0 0 6 = 1; standing 0 0 7 = 0");
    edges.edge(steps, "six in another order",
        "addStep y 5 6; addStep y 4 5; addStep y 3 4; addStep y 2 3; addStep y 1 2; addStep y 0 1;"
            + "text 0; length 0 = 2; standing 0 0 1 = 1; standing 0 0 2 = 0");
    String out =
        "What comes out are words at places, each with its index in the first text; a place can have several words.";
    edges.edge(out, "seven words at one place, each with the index",
        "addStep y 0 1; addStep y 0 2; addStep y 0 3; addStep y 0 4; addStep y 0 5; addStep y 0 6; text 9 0;"
            + "length 0 = 8; standing 0 1 0 = 1; standing 0 1 1 = 1; standing 0 1 6 = 1; ask w 6 0 0 1;"
            + "marked 0 0 0 = 1");
    edges.edge(out, "the most words that can come out",
        "addStep y 0 1; addStep y 0 2; addStep y 0 3; addStep y 0 4; addStep y 0 5; addStep y 0 6;"
            + "text 0 0 0 0 0 0 0 0 0 0 0 0; length 0 = 84; standing 0 11 6 = 1; ask w 6 0 0 1; marked 0 0 11 = 11;"
            + "marked 0 0 12 ! Element");
    edges.edge(out, "the index stays as the place moves",
        "addStep c 5 0; text 5 5 7; standing 0 0 7 = 1; ask w 7 0 0 1; marked 0 0 0 = 2; marked 0 0 1 ! Element");
    edges.edge(out, "nothing comes out",
        "addStep s 3 0; text 3 3; length 0 = 0; ask w 3 0 0 1; marked 0 0 0 ! Element");
  }

  private static void addStepKinds(Edges edges) {
    edges.in("Terms");
    String lower = "'l': each word from 30 on becomes 30 less.";
    edges.edge(lower, "29 stays", "addStep l 0 0; text 29; standing 0 0 29 = 1; length 0 = 1");
    edges.edge(lower, "30 becomes 0", "addStep l 0 0; text 30; standing 0 0 0 = 1; standing 0 0 30 = 0");
    edges.edge(lower, "59 becomes 29", "addStep l 0 0; text 59; standing 0 0 29 = 1; standing 0 0 59 = 0");
    edges.edge(lower, "0 stays", "addStep l 0 0; text 0; standing 0 0 0 = 1");
    edges.edge(lower, "each word",
        "addStep l 0 0; text 30 30 31; standing 0 0 0 = 1; standing 0 1 0 = 1; standing 0 2 1 = 1");
    edges.edge(lower, "an empty text", "addStep l 0 0; text; length 0 = 0");
    String even = "'m': each odd word becomes 1 less.";
    edges.edge(even, "0 stays", "addStep m 0 0; text 0; standing 0 0 0 = 1");
    edges.edge(even, "1 becomes 0", "addStep m 0 0; text 1; standing 0 0 0 = 1; standing 0 0 1 = 0");
    edges.edge(even, "58 stays", "addStep m 0 0; text 58; standing 0 0 58 = 1");
    edges.edge(even, "59 becomes 58", "addStep m 0 0; text 59; standing 0 0 58 = 1; standing 0 0 59 = 0");
    edges.edge(even, "each word",
        "addStep m 0 0; text 7 7 8; standing 0 0 6 = 1; standing 0 1 6 = 1; standing 0 2 8 = 1");
    edges.edge(even, "an empty text", "addStep m 0 0; text; length 0 = 0");
    String out = "'s' a: the word a is taken out, its place stays empty.";
    edges.edge(out, "the first and the last word",
        "addStep s 3 0; text 3 4 3; length 0 = 1; standing 0 0 4 = 0; standing 0 1 4 = 1");
    edges.edge(out, "all words", "addStep s 3 0; text 3 3; length 0 = 0; standing 0 0 3 = 0; standing 0 1 3 = 0");
    edges.edge(out, "no such word in the text", "addStep s 3 0; text 4 5; length 0 = 2; standing 0 1 5 = 1");
    edges.edge(out, "the words beside it stay",
        "addStep y 3 4; addStep s 3 0; text 3; length 0 = 1; standing 0 0 4 = 1");
    edges.edge(out, "an empty text", "addStep s 3 0; text; length 0 = 0");
    edges.edge(out, "over an empty place there is no phrase",
        "addStep s 3 0; text 1 3 2; write; openView; ask p 1 2 0 1; hits 0 0 = 0");
  }

  private static void addClosingUp(Edges edges) {
    edges.in("Terms");
    String closing =
        "'c' a: the word a is taken out wherever it stands; the place of each word that is left becomes less by the "
            + "number of words that were taken out at places ahead of its own, where two at one place count twice, "
            + "so that a place can be less than 0.";
    edges.edge(closing, "the first word",
        "addStep c 3 0; text 3 4; length 0 = 1; standing 0 0 4 = 1; standing 0 1 4 = 0");
    edges.edge(closing, "the last word",
        "addStep c 3 0; text 4 3; length 0 = 1; standing 0 0 4 = 1; standing 0 1 3 = 0");
    edges.edge(closing, "several, in the middle and behind",
        "addStep c 3 0; text 4 3 3 5 3 6 3; length 0 = 3; standing 0 0 4 = 1; standing 0 1 5 = 1; standing 0 2 6 = 1");
    edges.edge(closing, "all words", "addStep c 3 0; text 3 3 3; length 0 = 0");
    edges.edge(closing, "no such word", "addStep c 3 0; text 4 5; standing 0 0 4 = 1; standing 0 1 5 = 1");
    edges.edge(closing, "an empty text", "addStep c 3 0; text; length 0 = 0");
    edges.edge(closing, "a word at the same place is not behind it",
        "addStep y 3 4; addStep c 3 0; text 9 3 8; standing 0 1 4 = 1; standing 0 1 8 = 1; length 0 = 3");
    edges.edge(closing, "eleven ahead: from the last place to the first",
        "addStep c 3 0; text 3 3 3 3 3 3 3 3 3 3 3 4; standing 0 0 4 = 1; length 0 = 1");
    String twice = "addStep y 3 33; addStep l 0 0; addStep c 3 0;";
    edges.edge(closing, "two at one place: from 1 to -1",
        twice + "text 3 4 5; length 0 = 2; standing 0 -1 4 = 1; standing 0 0 4 = 0; standing 0 0 5 = 1");
    edges.edge(closing, "two at one place, eleven times: from 11 to -11",
        twice + "text 3 3 3 3 3 3 3 3 3 3 3 4; standing 0 -11 4 = 1; length 0 = 1");
    edges.edge(closing, "places below 0 are places: a phrase from -1 to 0",
        twice + "text 3 4 5; write; openView; ask p 4 5 0 1; hits 0 0 = 1; ask n 5 4 1 1; hits 0 1 = 1");
    edges.edge(closing, "places below 0 are ahead of 0",
        twice + "addStep c 4 0; text 3 4 5; length 0 = 1; standing 0 -1 5 = 1; standing 0 0 5 = 0");
    edges.edge(closing, "a later word that has gone ahead of the first one",
        twice + "addStep c 4 0; text 9 3 3 4; length 0 = 1; standing 0 -1 9 = 1; standing 0 0 9 = 0");
    edges.edge(closing, "words that meet at one place stand there twice",
        twice + "text 4 3 4; length 0 = 2; standing 0 0 4 = 2");
  }

  private static void addPuttingBeside(Edges edges) {
    edges.in("Terms");
    String beside =
        "'y' a b: at each place at which the word a stands, and b does not yet, the word b is put, too, with the "
            + "index of the first word a there.";
    edges.edge(beside, "the first and the last place",
        "addStep y 3 4; text 3 5 3; length 0 = 5; standing 0 0 4 = 1; standing 0 1 4 = 0; standing 0 2 4 = 1;"
            + "ask w 4 0 0 1; marked 0 0 0 = 0; marked 0 0 1 = 2");
    edges.edge(beside, "b stands there", "addStep y 3 4; addStep y 3 4; text 3; length 0 = 2; standing 0 0 4 = 1");
    edges.edge(beside, "b stands at another place",
        "addStep y 3 4; text 4 3; length 0 = 3; standing 0 1 4 = 1; standing 0 0 3 = 0");
    edges.edge(beside, "a word with itself", "addStep y 3 3; text 3 3; length 0 = 2; standing 0 0 3 = 1");
    edges.edge(beside, "no such word", "addStep y 3 4; text 5; length 0 = 1");
    edges.edge(beside, "an empty text", "addStep y 3 4; text; length 0 = 0");
    edges.edge(beside, "the words 0 and 59", "addStep y 0 59; text 0; standing 0 0 59 = 1; standing 0 0 0 = 1");
    edges.edge(beside, "the words 59 and 0", "addStep y 59 0; text 59; standing 0 0 59 = 1; standing 0 0 0 = 1");
    edges.edge(beside, "a stands twice there, b is put once",
        "addStep y 3 33; addStep l 0 0; addStep y 3 4; text 3; standing 0 0 3 = 2; standing 0 0 4 = 1; length 0 = 3");
    String meeting = "addStep y 3 33; addStep l 0 0; addStep c 3 0; addStep y 4 5;";
    edges.edge(beside, "two words a of two indexes: the first one's",
        meeting + "text 4 3 4; standing 0 0 4 = 2; standing 0 0 5 = 1; ask w 5 0 0 1; marked 0 0 0 = 0;"
            + "marked 0 0 1 ! Element");
    edges.edge(beside, "a place below 0",
        meeting + "text 3 4; standing 0 -1 5 = 1; ask w 5 0 0 1; marked 0 0 0 = 1");
  }

  private static void addNewObject(Edges edges) {
    edges.in("Promise 1: A new object");
    String made = "Creates an empty store, without steps, with a bound of 0.";
    edges.edge(made, "no documents",
        "state 0 ! Index; length 0 ! Index; standing 0 0 0 ! Index; isOnReplica 0 ! Index; open 0 -1 = 0");
    edges.edge(made, "no open text", "close ! State; addWord 1 ! State; open 0 -1 = 0");
    edges.edge(made, "no segments", "segments = 0; size 0 ! Index; merge 0 ! Index; write = 0; segments = 0");
    edges.edge(made, "no views", "seen 0 ! Index; closeView 0 ! Index; meanLength 0 ! Index; openView = 0; seen 0 = 0");
    edges.edge(made, "no queries", "openView; hits 0 0 ! Index; text 1; marked 0 0 0 ! Index; ask w 1 0 0 1 = 0");
    edges.edge(made, "no commits", "follow ! State; crash = 0; commit = 1; follow = 0");
    edges.edge(made, "no steps", "dropSteps = 0; addStep l 0 0 = 1");
    edges.edge(made, "the bound is answered", "setBound 9 = 0");
    edges.edge(made, "under the bound 0 no click counts",
        "text 1 2; text 1; write; openView; ask w 1 0 0 1; 99x click 0; hit 0 0 0 = 1; setBound 99; hit 0 0 0 = 0");
  }

  private static void addAddStep(Edges edges) {
    edges.in("Promise 2: addStep");
    String kinds = "- `kind`: 'l', 'm', 's', 'c' or 'y'";
    edges.edge(kinds, "all five",
        "addStep l 0 0 = 1; addStep m 0 0 = 2; addStep s 0 0 = 3; addStep c 0 0 = 4; addStep y 0 0 = 5");
    edges.edge("- `a`: the first word, of no meaning for 'l' and 'm'", "any number",
        "addStep l -1 0 = 1; addStep l 60 0 = 2; addStep l MIN 0 = 3; addStep m -1 0 = 4; addStep m 60 0 = 5;"
            + "addStep m MAX 0 = 6");
    edges.edge("- `b`: the second word, of no meaning but for 'y'", "any number",
        "addStep l 0 -1 = 1; addStep m 0 60 = 2; addStep s 0 -1 = 3; addStep s 0 60 = 4; addStep c 0 MIN = 5;"
            + "addStep c 0 MAX = 6");
    String refused = "Throws `IllegalArgumentException` if there is no such kind or word";
    edges.edge(refused, "signs beside the kinds",
        "addStep k 1 2 ! Argument; addStep n 1 2 ! Argument; addStep r 1 2 ! Argument; addStep t 1 2 ! Argument;"
            + "addStep b 1 2 ! Argument; addStep d 1 2 ! Argument; addStep x 1 2 ! Argument; addStep z 1 2 ! Argument");
    edges.edge(refused, "other signs",
        "addStep L 1 2 ! Argument; addStep Y 1 2 ! Argument; addStep w 1 2 ! Argument; addStep #0 1 2 ! Argument;"
            + "addStep #255 1 2 ! Argument; addStep #364 1 2 ! Argument; addStep #65535 1 2 ! Argument");
    String firstWords = "addStep k -1 1 ! Argument; addStep k 0 1 = 1; addStep k 59 1 = 2; addStep k 60 1 ! Argument;"
        + "addStep k MIN 1 ! Argument; addStep k MAX 1 ! Argument";
    for (String kind : new String[] {"s", "c", "y"}) {
      edges.edge(refused, "the first word of " + kind, firstWords.replace(" k ", " " + kind + " "));
    }
    edges.edge(refused, "the second word of y",
        "addStep y 1 -1 ! Argument; addStep y 1 0 = 1; addStep y 1 59 = 2; addStep y 1 60 ! Argument;"
            + "addStep y 1 MIN ! Argument; addStep y 1 MAX ! Argument");
    edges.edge(refused, "it comes ahead of six steps",
        "6x addStep l 0 0; addStep k 0 0 ! Argument; addStep s 60 0 ! Argument; addStep y 0 60 ! Argument;"
            + "addStep y 0 59 ! State");
    String full = "Throws `IllegalStateException` if there are 6 steps";
    edges.edge(full, "five are not six", "5x addStep l 0 0; addStep m 0 0 = 6");
    edges.edge(full, "six are", "6x addStep l 0 0; addStep m 0 0 ! State; addStep y 1 2 ! State; dropSteps = 6");
    edges.edge(full, "a refused step changes no text",
        "6x addStep l 0 0; addStep m 0 0 ! State; text 33; standing 0 0 3 = 1");
    edges.edge(full, "a crash drops none", "6x addStep l 0 0; crash; addStep m 0 0 ! State");
  }

  private static void addDropSteps(Edges edges) {
    edges.in("Promise 3: dropSteps");
    String dropped = "Returns the number of steps that there were.";
    edges.edge(dropped, "none", "dropSteps = 0; dropSteps = 0");
    edges.edge(dropped, "one", "addStep m 0 0; dropSteps = 1; dropSteps = 0; text 3; standing 0 0 3 = 1");
    edges.edge(dropped, "six, and there is room for six again",
        "6x addStep m 0 0; dropSteps = 6; 6x addStep l 0 0; addStep l 0 0 ! State");
  }
}
