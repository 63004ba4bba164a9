/** Boundary cases of queries and scores: promises 22 and 23. */
final class QueryEdges {
  private QueryEdges() {
  }

  static void addTo(Edges edges) {
    addQueriesOfWords(edges);
    addNearWords(edges);
    addQueriesOfTwo(edges);
    addScores(edges);
    addScoresOfTwo(edges);
    addAsk(edges);
    addAskRefusals(edges);
    addJoin(edges);
    addJoinRefusals(edges);
  }

  private static void addQueriesOfWords(Edges edges) {
    edges.in("Terms");
    String numbered = "At most 40 queries are numbered from 0.";
    edges.edge(numbered, "the first and the 40th of words",
        "ask w 1 0 0 1 = 0; 38x ask w 1 0 0 1; ask w 1 0 0 1 = 39; ask w 1 0 0 1 ! State");
    edges.edge(numbered, "the 40th of two",
        "39x ask w 1 0 0 1; join a 0 38 = 39; join a 0 38 ! State; openView; hits 0 39 = 0");
    String word = "'w' a: the word a; a document matches as often as the word stands in it.";
    edges.edge(word, "never",
        "text 2 3; text; write; openView; ask w 1 0 0 1; hits 0 0 = 0; scoreAlone 0 0 0 = -1; scoreAlone 0 0 1 = -1");
    edges.edge(word, "once, and twelve times",
        "text 1 2 2 2 2 2 2 2 2 2 2 2; text 1 1 1 1 1 1 1 1 1 1 1 1; write; openView; ask w 1 0 0 1;"
            + "scoreAlone 0 0 0 = 6; scoreAlone 0 0 1 = 75");
    edges.edge(word, "twice at one place",
        "addStep y 1 31; addStep l 0 0; text 1; write; openView; ask w 1 0 0 1; score 0 0 0 = 33");
    edges.edge(word, "the words 0 and 59",
        "text 0 59; write; openView; ask w 0 0 0 1; ask w 59 0 0 1; hits 0 0 = 1; hits 0 1 = 1");
    String phrase =
        "'p' a b: the phrase of the word a and the word b at the next place; as often as there are such places.";
    edges.edge(phrase, "at the next place", "text 1 2; write; openView; ask p 1 2 0 1; hits 0 0 = 1; score 0 0 0 = 16");
    edges.edge(phrase, "at the place ahead", "text 2 1; write; openView; ask p 1 2 0 1; hits 0 0 = 0");
    edges.edge(phrase, "two places on", "text 1 3 2; write; openView; ask p 1 2 0 1; hits 0 0 = 0");
    edges.edge(phrase, "at the same place", "addStep y 1 2; text 1; write; openView; ask p 1 2 0 1; hits 0 0 = 0");
    edges.edge(phrase, "one word alone",
        "text 1; text 2; write; openView; ask p 1 2 0 1; hits 0 0 = 0; ask p 1 1 0 1; hits 0 1 = 0");
    edges.edge(phrase, "at the last two places",
        "text 3 3 3 3 3 3 3 3 3 3 1 2; write; openView; ask p 1 2 0 1; hits 0 0 = 1");
    edges.edge(phrase, "a word with itself, eleven times",
        "text 1 1 1 1 1 1 1 1 1 1 1 1; write; openView; ask p 1 1 0 1; score 0 0 0 = 68");
    edges.edge(phrase, "twice at one place is one place",
        "addStep y 1 31; addStep y 2 32; addStep l 0 0; text 1 2; write; openView; ask p 1 2 0 1; score 0 0 0 = 12");
    edges.edge("The words of a query go through no steps.", "a word that no text has any more",
        "addStep l 0 0; text 30; write; openView; ask w 30 0 0 1; ask w 0 0 0 1; hits 0 0 = 0; hits 0 1 = 1");
    edges.edge("The words of a query go through no steps.", "nor do those of a phrase and of near ones",
        "addStep m 0 0; text 1 3; write; openView; ask p 1 3 0 1; ask p 0 2 0 1; ask n 3 1 1 1; ask n 2 0 1 1;"
            + "hits 0 0 = 0; hits 0 1 = 1; hits 0 2 = 0; hits 0 3 = 1");
  }

  private static void addNearWords(Edges edges) {
    edges.in("Terms");
    String near =
        "'n' a b d: the words a and b near each other, at places that differ by at most d, in either order, but not "
            + "at the same place; as often as there are couples of a place of a and a place of b that do so, where "
            + "two places of the same word make two couples.";
    edges.edge(near, "the distance 1", "text 1 2; write; openView; ask n 1 2 1 1; score 0 0 0 = 16");
    edges.edge(near, "2 is beyond the distance 1",
        "text 1 3 2; write; openView; ask n 1 2 1 1; hits 0 0 = 0; ask n 1 2 2 1; hits 0 1 = 1");
    edges.edge(near, "the distance 9",
        "text 1 3 3 3 3 3 3 3 3 2; write; openView; ask n 1 2 9 1; hits 0 0 = 1; ask n 1 2 8 1; hits 0 1 = 0");
    edges.edge(near, "10 is beyond the distance 9",
        "text 1 3 3 3 3 3 3 3 3 3 2; write; openView; ask n 1 2 9 1; hits 0 0 = 0");
    edges.edge(near, "the other order",
        "text 2 1; write; openView; ask n 1 2 1 1; hits 0 0 = 1; text 2 3 1; write; openView; hits 1 0 = 1");
    edges.edge(near, "9 in the other order, and 10",
        "text 2 3 3 3 3 3 3 3 3 1; text 2 3 3 3 3 3 3 3 3 3 1; write; openView; ask n 1 2 9 1; hits 0 0 = 1;"
            + "hit 0 0 0 = 0");
    edges.edge(near, "not at the same place", "addStep y 1 2; text 1; write; openView; ask n 1 2 9 1; hits 0 0 = 0");
    edges.edge(near, "at the same place and beside it",
        "addStep y 1 2; text 1 1; write; openView; ask n 1 2 1 1; score 0 0 0 = 25");
    edges.edge(near, "couples of one a and two b", "text 2 1 2; write; openView; ask n 1 2 1 1; score 0 0 0 = 28");
    edges.edge(near, "couples of two a and two b",
        "text 1 2 1 2; write; openView; ask n 1 2 9 1; score 0 0 0 = 50; ask n 1 2 1 1; score 0 1 0 = 37");
    edges.edge(near, "a word with itself: no place alone", "text 1; write; openView; ask n 1 1 9 1; hits 0 0 = 0");
    edges.edge(near, "a word with itself: two places make two couples",
        "text 1 1; write; openView; ask n 1 1 1 1; score 0 0 0 = 33");
    edges.edge(near, "a word with itself: the most couples",
        "text 1 1 1 1 1 1 1 1 1 1 1 1; write; openView; ask n 1 1 9 1; score 0 0 0 = 787");
    edges.edge(near, "twice at one place is one place",
        "addStep y 1 31; addStep l 0 0; text 1 5 2; write; openView; ask n 1 2 2 1; score 0 0 0 = 12; ask n 1 1 9 1;"
            + "hits 0 1 = 0");
  }

  private static void addQueriesOfTwo(Edges edges) {
    edges.in("Terms");
    // The documents have the first word, the second, both, and none.
    String four = "text 1; text 2; text 1 2; text 3; write; openView; ask w 1 0 0 1; ask w 2 0 0 1;";
    edges.edge("'a' q r: both queries match.", "one, the other, both, none",
        four + "join a 0 1; hits 0 2 = 1; hit 0 2 0 = 2");
    edges.edge("'a' q r: both queries match.", "a query with itself", four + "join a 0 0; hits 0 2 = 2");
    edges.edge("'o' q r: at least one of both matches.", "one, the other, both, none",
        four + "join o 0 1; hits 0 2 = 3; scoreAlone 0 2 0 = 33; scoreAlone 0 2 1 = 33; scoreAlone 0 2 2 = 54;"
            + "scoreAlone 0 2 3 = -1");
    edges.edge("'o' q r: at least one of both matches.", "a query with itself", four + "join o 0 0; hits 0 2 = 2");
    edges.edge("'x' q r: the query q matches, and r does not.", "one, the other, both, none",
        four + "join x 0 1; hits 0 2 = 1; hit 0 2 0 = 0");
    edges.edge("'x' q r: the query q matches, and r does not.", "a query with itself matches nothing",
        four + "join x 0 0; hits 0 2 = 0");
    edges.edge("'x' q r: the query q matches, and r does not.", "without one that matches nothing",
        four + "join x 0 0; join x 0 2; hits 0 3 = 2");
    edges.edge("'i' q r: the query q matches; r is a wish.", "one, the other, both, none",
        four + "join i 0 1; hits 0 2 = 2; scoreAlone 0 2 0 = 33; scoreAlone 0 2 1 = -1; scoreAlone 0 2 2 = 54;"
            + "scoreAlone 0 2 3 = -1");
    edges.edge("'i' q r: the query q matches; r is a wish.", "a wish that nothing fulfils",
        four + "join x 0 0; join i 0 2; hits 0 3 = 2; scoreAlone 0 3 2 = 27");
  }

  private static void addScores(Edges edges) {
    edges.in("Terms");
    String score =
        "A document that matches it t times, with the length k, has the score 100 * t * (n + 1) / ((m + 1) * (k + "
            + "4)), rounded down, times the weight of the query.";
    edges.edge(score, "nothing to round: 200 / 10", "text 1; write; openView; ask w 1 0 0 1; score 0 0 0 = 20");
    edges.edge(score, "just below 17: 200 / 12 = 16 2/3", "text 1 2; write; openView; ask w 1 0 0 1; score 0 0 0 = 16");
    edges.edge(score, "just above 14: 200 / 14 = 14 2/7",
        "text 1 2 3; write; openView; ask w 1 0 0 1; score 0 0 0 = 14");
    edges.edge(score, "rounded down ahead of the weight: 16 * 9, not 150",
        "text 1 2; write; openView; ask w 1 0 0 9; score 0 0 0 = 144");
    edges.edge(score, "t times ahead of the rounding: 400 / 12 = 33, not 32",
        "text 1 1; write; openView; ask w 1 0 0 1; score 0 0 0 = 33");
    edges.edge(score, "the weights 1 and 9",
        "text 1; write; openView; ask w 1 0 0 1; ask w 1 0 0 9; score 0 0 0 = 20; score 0 1 0 = 180");
    edges.edge(score, "the rarest of 30: 100 * 31 / 10",
        "text 1; 29x text 2; write; openView; ask w 1 0 0 1; score 0 0 0 = 310");
    edges.edge(score, "in all of 30: 100 * 31 / (31 * 5)",
        "30x text 1; write; openView; ask w 1 0 0 1; score 0 0 29 = 20");
    edges.edge(score, "the least one: 200 / (2 * 88)",
        "addStep y 0 1; addStep y 0 2; addStep y 0 3; addStep y 0 4; addStep y 0 5; addStep y 0 6;"
            + "text 0 0 0 0 0 0 0 0 0 0 0 0; write; openView; ask w 7 0 0 1; hits 0 0 = 0; ask w 6 0 0 1;"
            + "score 0 1 0 = 13");
    edges.edge(score, "the least one of a long text: 200 / (2 * 27)",
        "addStep y 0 1; text 0 0 0 0 0 0 0 0 0 0 0 9; write; openView; ask w 9 0 0 1; score 0 0 0 = 3");
    edges.edge(score, "the greatest one of a word: 100 * 12 * 31 / 32 = 1162, times 9",
        "text 1 1 1 1 1 1 1 1 1 1 1 1; 29x text; write; openView; ask w 1 0 0 9; score 0 0 0 = 10458");
    edges.edge(score, "the greatest one of near ones: 100 * 126 * 31 / 32 = 12206, times 9",
        "text 1 1 1 1 1 1 1 1 1 1 1 1; 29x text; write; openView; ask n 1 1 9 9; score 0 0 0 = 109854");
    String counted =
        "Let n be the number of documents of a view, and m the number of those that match a query of the kind 'w', "
            + "'p' or 'n'.";
    edges.edge(counted, "n is that of the view, not of the store",
        "text 1; text 2; write; openView; text 2; write; openView; ask w 1 0 0 1; score 0 0 0 = 30; score 1 0 0 = 40");
    edges.edge(counted, "m is that of the view, not of the store",
        "text 1; write; openView; text 1; write; openView; ask w 1 0 0 1; score 0 0 0 = 20; scoreAlone 1 0 0 = 20;"
            + "text 2; write; openView; scoreAlone 2 0 0 = 26");
    edges.edge(counted, "removed ones count while the view has them",
        "text 1; text 1; text 2; write; openView; remove 1; openView; ask w 1 0 0 1; scoreAlone 0 0 0 = 26;"
            + "scoreAlone 1 0 0 = 30");
    edges.edge(counted, "m is that of each part, not of the whole query",
        "text 1; text 1 2; write; openView; ask w 1 0 0 1; ask w 2 0 0 1; join x 0 1; hits 0 2 = 1; score 0 2 0 = 20");
    edges.edge(counted, "m of a phrase and of near ones",
        "text 1 2; text 2 1; text 1; write; openView; ask p 1 2 0 1; ask n 1 2 1 1; score 0 0 0 = 33;"
            + "score 0 1 0 = 22");
  }

  private static void addScoresOfTwo(Edges edges) {
    edges.in("Terms");
    String score =
        "The score of 'a' is the sum of both; of 'o' the sum of those that match; of 'x' that of q; of 'i' that of "
            + "q, plus that of r if it matches.";
    // Of two, both match 1 and score 20 or 16; one matches 2 and scores 25, times 3.
    String two = "text 1; text 1 2; write; openView; ask w 1 0 0 1; ask w 2 0 0 3;";
    edges.edge(score, "a: both", two + "join a 0 1; scoreAlone 0 2 0 = -1; scoreAlone 0 2 1 = 91");
    edges.edge(score, "o: one and both", two + "join o 0 1; scoreAlone 0 2 0 = 20; scoreAlone 0 2 1 = 91");
    edges.edge(score, "o: the other one alone", two + "ask w 5 0 0 1; join o 2 1; scoreAlone 0 3 1 = 75");
    edges.edge(score, "x: the first alone", two + "join x 0 1; scoreAlone 0 2 0 = 20; scoreAlone 0 2 1 = -1");
    edges.edge(score, "i: without and with the wish", two + "join i 0 1; scoreAlone 0 2 0 = 20; scoreAlone 0 2 1 = 91");
    edges.edge(score, "i: the wish alone is nothing", two + "join i 1 0; scoreAlone 0 2 0 = -1; scoreAlone 0 2 1 = 91");
    edges.edge(score, "a query with itself is summed twice",
        two + "join a 0 0; join o 0 0; join i 0 0; score 0 2 0 = 40; score 0 3 0 = 40; score 0 4 0 = 40");
    edges.edge(score, "the most that a query is made of: 20 times 109854",
        "text 1 1 1 1 1 1 1 1 1 1 1 1; 29x text; write; openView; ask n 1 1 9 9; join o 0 0; join o 1 1; join o 2 2;"
            + "join o 3 3; join o 4 2; score 0 5 0 = 2197080");
  }

  private static void addAsk(Edges edges) {
    edges.in("Promise 22: ask");
    edges.edge("- `kind`: 'w', 'p' or 'n'", "all three", "ask w 1 2 1 1 = 0; ask p 1 2 1 1 = 1; ask n 1 2 1 1 = 2");
    edges.edge("- `b`: the second word, of no meaning for 'w'", "any number",
        "ask w 1 -1 1 1 = 0; ask w 1 60 1 1 = 1; ask w 1 MIN 1 1 = 2; ask w 1 MAX 1 1 = 3");
    String distance = "- `distance`: the distance, 1 to 9, of no meaning but for 'n'";
    edges.edge(distance, "1 and 9 for n",
        "ask n 1 2 0 1 ! Argument; ask n 1 2 1 1 = 0; ask n 1 2 9 1 = 1; ask n 1 2 10 1 ! Argument");
    edges.edge(distance, "any number for w",
        "ask w 1 2 0 1 = 0; ask w 1 2 10 1 = 1; ask w 1 2 MIN 1 = 2; ask w 1 2 MAX 1 = 3");
    edges.edge(distance, "any number for p",
        "ask p 1 2 0 1 = 0; ask p 1 2 10 1 = 1; ask p 1 2 MIN 1 = 2; ask p 1 2 MAX 1 = 3");
    edges.edge("- `weight`: the weight, 1 to 9", "1 and 9",
        "ask w 1 0 0 0 ! Argument; ask w 1 0 0 1 = 0; ask w 1 0 0 9 = 1; ask w 1 0 0 10 ! Argument");
    edges.edge("Returns the number of the query.", "the same one again gets another number",
        "ask w 1 0 0 1 = 0; ask w 1 0 0 1 = 1; join a 0 0 = 2; ask w 1 0 0 1 = 3");
  }

  private static void addAskRefusals(Edges edges) {
    edges.in("Promise 22: ask");
    String refused = "Throws `IllegalArgumentException` if there is no such kind or word, or a number is out of range";
    edges.edge(refused, "signs beside the kinds",
        "ask v 1 2 1 1 ! Argument; ask x 1 2 1 1 ! Argument; ask o 1 2 1 1 ! Argument; ask q 1 2 1 1 ! Argument;"
            + "ask m 1 2 1 1 ! Argument");
    edges.edge(refused, "other signs",
        "ask W 1 2 1 1 ! Argument; ask a 1 2 1 1 ! Argument; ask i 1 2 1 1 ! Argument; ask #0 1 2 1 1 ! Argument;"
            + "ask #375 1 2 1 1 ! Argument; ask #65535 1 2 1 1 ! Argument");
    String first =
        "ask k -1 2 1 1 ! Argument; ask k MIN 2 1 1 ! Argument; ask k 0 2 1 1 = 0; ask k 59 2 1 1 = 1; ask k 60 2 1 "
            + "1 ! Argument; ask k MAX 2 1 1 ! Argument";
    String second =
        "ask k 1 -1 1 1 ! Argument; ask k 1 MIN 1 1 ! Argument; ask k 1 0 1 1 = 0; ask k 1 59 1 1 = 1; ask k 1 60 1 "
            + "1 ! Argument; ask k 1 MAX 1 1 ! Argument";
    String weight =
        "ask k 1 2 1 0 ! Argument; ask k 1 2 1 -1 ! Argument; ask k 1 2 1 MIN ! Argument; ask k 1 2 1 1 = 0; ask k "
            + "1 2 1 9 = 1; ask k 1 2 1 10 ! Argument; ask k 1 2 1 MAX ! Argument";
    for (String kind : new String[] {"w", "p", "n"}) {
      edges.edge(refused, "the first word of " + kind, first.replace(" k ", " " + kind + " "));
      edges.edge(refused, "the weight of " + kind, weight.replace(" k ", " " + kind + " "));
    }
    for (String kind : new String[] {"p", "n"}) {
      edges.edge(refused, "the second word of " + kind, second.replace(" k ", " " + kind + " "));
    }
    edges.edge(refused, "the distance of n",
        "ask n 1 2 0 1 ! Argument; ask n 1 2 -1 1 ! Argument; ask n 1 2 MIN 1 ! Argument; ask n 1 2 1 1 = 0;"
            + "ask n 1 2 9 1 = 1; ask n 1 2 10 1 ! Argument; ask n 1 2 MAX 1 ! Argument");
    edges.edge(refused, "it comes ahead of 40 queries",
        "40x ask w 1 0 0 1; ask k 1 0 0 1 ! Argument; ask w 60 0 0 1 ! Argument; ask p 1 60 0 1 ! Argument;"
            + "ask n 1 2 10 1 ! Argument; ask w 1 0 0 10 ! Argument; ask w 1 0 0 9 ! State");
    String full = "Throws `IllegalStateException` if there are 40 queries";
    edges.edge(full, "39 are not 40", "39x ask w 1 0 0 1; ask w 2 0 0 1 = 39; ask w 2 0 0 1 ! State");
    edges.edge(full, "40 are, those of two among them",
        "20x ask w 1 0 0 1; 20x join a 0 1; ask p 1 2 0 1 ! State; ask n 1 2 1 1 ! State; ask w 1 0 0 1 ! State");
    edges.edge(full, "a crash drops none", "40x ask w 1 0 0 1; crash; ask w 1 0 0 1 ! State");
  }

  private static void addJoin(Edges edges) {
    edges.in("Promise 23: join");
    edges.edge("- `kind`: 'a', 'o', 'x' or 'i'", "all four",
        "ask w 1 0 0 1; join a 0 0 = 1; join o 0 0 = 2; join x 0 0 = 3; join i 0 0 = 4");
    edges.edge("Returns the number of the query.", "the first and the last query, and of two of two",
        "2x ask w 1 0 0 1; join a 0 1 = 2; join o 2 0 = 3; join x 3 2 = 4; join i 4 4 = 5");
    String most = "it would be made of more than 20 queries of words";
    String twenty = "ask w 1 0 0 1; join o 0 0; join a 1 1; join x 2 2; join i 3 3;";
    edges.edge(most, "16 and 4 are 20", twenty + "join o 4 2 = 5; openView; hits 0 5 = 0");
    edges.edge(most, "19 and 1 are 20, 20 and 1 are 21",
        twenty + "join o 4 1 = 5; join o 5 0 = 6; join o 6 0 = 7; join o 7 0 ! State; join o 0 7 ! State;"
            + "join o 0 6 = 8");
    edges.edge(most, "16 and 8 are 24, 16 and 16 are 32",
        twenty + "join o 4 3 ! State; join o 4 4 ! State; join o 3 3 = 5");
    edges.edge(most, "20 of words that differ, and 21",
        "21x ask w 1 0 0 1; join o 0 1 = 21; join o 2 3 = 22; join o 21 22 = 23; join o 23 23 = 24;"
            + "join o 24 24 = 25; join o 25 23 = 26; join o 26 20 ! State; join o 25 21 = 27");
    edges.edge(most, "the second one of x and the wish of i count",
        twenty + "join x 0 4 = 5; join i 2 5 ! State; join i 1 5 = 6");
  }

  private static void addJoinRefusals(Edges edges) {
    edges.in("Promise 23: join");
    String kind = "Throws `IllegalArgumentException` if there is no such kind";
    edges.edge(kind, "signs beside the kinds",
        "ask w 1 0 0 1; join b 0 0 ! Argument; join n 0 0 ! Argument; join p 0 0 ! Argument; join w 0 0 ! Argument;"
            + "join y 0 0 ! Argument; join h 0 0 ! Argument; join j 0 0 ! Argument");
    edges.edge(kind, "other signs",
        "ask w 1 0 0 1; join A 0 0 ! Argument; join #0 0 0 ! Argument; join #353 0 0 ! Argument;"
            + "join #65535 0 0 ! Argument");
    edges.edge(kind, "it comes ahead of no such query",
        "join w 0 0 ! Argument; ask w 1 0 0 1; join w 0 1 ! Argument; join w -1 0 ! Argument; join a 0 1 ! Index");
    edges.edge(kind, "it comes ahead of 40 queries", "40x ask w 1 0 0 1; join w 0 0 ! Argument; join a 0 0 ! State");
    edges.edge(kind, "it comes ahead of more than 20",
        "ask w 1 0 0 1; join o 0 0; join o 1 1; join o 2 2; join o 3 3; join w 4 4 ! Argument; join o 4 4 ! State");
    String query = "Throws `IndexOutOfBoundsException` if there is no such query, for either";
    edges.edge(query, "there is none", "join a 0 0 ! Index; join a -1 -1 ! Index; ask w 1 0 0 1 = 0");
    edges.edge(query, "the first: too small and too large",
        "2x ask w 1 0 0 1; join a -1 0 ! Index; join a MIN 0 ! Index; join a 2 0 ! Index; join a MAX 0 ! Index;"
            + "join a 1 0 = 2");
    edges.edge(query, "the second: too small and too large",
        "2x ask w 1 0 0 1; join a 0 -1 ! Index; join a 0 MIN ! Index; join a 0 2 ! Index; join a 0 MAX ! Index;"
            + "join a 0 1 = 2");
    edges.edge(query, "each kind, and its own number",
        "ask w 1 0 0 1; join a 1 0 ! Index; join o 0 1 ! Index; join x 0 1 ! Index; join i 1 1 ! Index;"
            + "join i 0 0 = 1");
    edges.edge(query, "it comes ahead of 40 queries",
        "40x ask w 1 0 0 1; join a 40 0 ! Index; join a 0 40 ! Index; join a -1 0 ! Index; join a 0 39 ! State");
    edges.edge(query, "it comes ahead of more than 20",
        "ask w 1 0 0 1; join o 0 0; join o 1 1; join o 2 2; join o 3 3; join o 4 5 ! Index; join o -1 4 ! Index;"
            + "join o 4 4 ! State");
    String full =
        "Throws `IllegalStateException` if there are 40 queries, or it would be made of more than 20 queries of "
            + "words";
    edges.edge(full, "39 are not 40", "39x ask w 1 0 0 1; join a 0 1 = 39; join a 0 1 ! State");
    edges.edge(full, "40 are, and more than 20 as well",
        "ask w 1 0 0 1; join o 0 0; join o 1 1; join o 2 2; join o 3 3; 35x ask w 1 0 0 1; join o 0 0 ! State;"
            + "join o 4 4 ! State");
    edges.edge(full, "made of 20, and of 21",
        "ask w 1 0 0 1; join o 0 0; join o 1 1; join o 2 2; join o 3 3; join o 4 2 = 5; join o 5 0 ! State;"
            + "join o 0 5 ! State; join o 0 0 = 6");
  }
}
