/** Boundary cases of segments: promises 11 to 14 and 36. */
final class SegmentEdges {
  private SegmentEdges() {
  }

  static void addTo(Edges edges) {
    addSegments(edges);
    addWrite(edges);
    addSize(edges);
    addMerge(edges);
    addRemovedShare(edges);
  }

  private static void addSegments(Edges edges) {
    edges.in("Terms");
    String written =
        "When the buffer is written, its documents that are not removed become a segment, behind the others; if "
            + "there are none, there is no segment.";
    edges.edge(written, "an empty buffer", "write = 0; segments = 0; text; write = 1; write = 0; segments = 1");
    edges.edge(written, "one document", "text; write = 1; segments = 1; size 0 = 1; state 0 = s");
    edges.edge(written, "30 documents", "30x text; write = 30; segments = 1; size 0 = 30");
    edges.edge(written, "30 segments", "text; write;".repeat(30) + "segments = 30; size 29 = 1; size 30 ! Index");
    edges.edge(written, "all but one removed",
        "3x text; remove 0; remove 2; write = 1; size 0 = 1; removedShare = 0/1");
    edges.edge(written, "all removed", "3x text; remove 0; remove 1; remove 2; write = 0; segments = 0; state 1 = r");
    edges.edge(written, "behind the others", "2x text; write; text; write; size 0 = 2; size 1 = 1");
    edges.edge(written, "what was written is not written again",
        "text; write = 1; remove 0; write = 0; text; write = 1; segments = 2");
    edges.edge(written, "an open text is in no buffer", "open 0 -1; write = 0; segments = 0; close; write = 1");
    edges.edge("Segments are numbered from 0.", "0 is the first, none is below",
        "2x text; write; text; write; size -1 ! Index; size 0 = 2; size 1 = 1; size 2 ! Index");
    String merged =
        "When a segment is merged with the next one, the documents of both that are not removed become one segment "
            + "in their place, or none if there are none.";
    edges.edge(merged, "none is removed", "text; write; 2x text; write; merge 0 = 0; segments = 1; size 0 = 3");
    edges.edge(merged, "all of the first are removed",
        "text; write; text; write; remove 0; merge 0 = 1; segments = 1; size 0 = 1; state 1 = s");
    edges.edge(merged, "all of the second are removed",
        "text; write; text; write; remove 1; merge 0 = 1; segments = 1; size 0 = 1; state 0 = s");
    edges.edge(merged, "all of both are removed",
        "text; write; text; write; remove 0; remove 1; merge 0 = 2; segments = 0; size 0 ! Index");
    String four = "text; write; 2x text; write; 3x text; write; 4x text; write;";
    edges.edge(merged, "in their place: the first two",
        four + "merge 0 = 0; segments = 3; size 0 = 3; size 1 = 3; size 2 = 4");
    edges.edge(merged, "in their place: the middle two",
        four + "merge 1 = 0; segments = 3; size 0 = 1; size 1 = 5; size 2 = 4");
    edges.edge(merged, "in their place: the last two",
        four + "merge 2 = 0; segments = 3; size 0 = 1; size 1 = 2; size 2 = 7");
    edges.edge(merged, "none in the middle: the others move up",
        four + "remove 1; remove 2; remove 3; remove 4; remove 5; merge 1 = 5; segments = 2; size 0 = 1; size 1 = 4;"
            + "size 2 ! Index");
    edges.edge(merged, "none at the end",
        "text; write; text; write; text; write; remove 1; remove 2; merge 1 = 2; segments = 1; size 0 = 1; text;"
            + "write; size 1 = 1");
    edges.edge(merged, "a removed one of the buffer is in no segment",
        "text; write; text; remove 1; text; write; merge 0 = 0; size 0 = 2");
  }

  private static void addWrite(Edges edges) {
    edges.in("Promise 11: write");
    String none = "Returns the number of documents of the segment, 0 if there is none.";
    edges.edge(none, "an empty store", "write = 0");
    edges.edge(none, "removed ones alone", "text; remove 0; write = 0; write = 0");
    edges.edge(none, "one and 29", "text; write = 1; 29x text; write = 29");
    edges.edge(none, "behind a crash", "text; crash; write = 0; segments = 0");
    edges.in("Promise 12: segments");
    edges.edge("Returns the number of segments.", "none, one, two and one again",
        "segments = 0; text; write; segments = 1; text; write; segments = 2; merge 0; segments = 1");
    edges.edge("Returns the number of segments.", "one of removed documents alone is one",
        "text; write; remove 0; segments = 1; write; segments = 1");
  }

  private static void addSize(Edges edges) {
    edges.in("Promise 13: size");
    String removed = "those included that were removed since it was written or merged";
    edges.edge(removed, "removed ahead of the writing: not included", "2x text; remove 0; write; size 0 = 1");
    edges.edge(removed, "removed behind the writing: included",
        "2x text; write; remove 0; size 0 = 2; remove 1; size 0 = 2");
    edges.edge(removed, "removed ahead of the merging: not included",
        "2x text; write; text; write; remove 0; merge 0; size 0 = 2");
    edges.edge(removed, "removed behind the merging: included",
        "2x text; write; text; write; merge 0; remove 0; size 0 = 3");
    edges.edge(removed, "another merging leaves it included",
        "2x text; write; text; write; text; write; remove 0; merge 1; size 0 = 2; size 1 = 2");
    String noSegment = "Throws `IndexOutOfBoundsException` if there is no such segment";
    edges.edge(noSegment, "there is none", "size 0 ! Index; size -1 ! Index; text; size 0 ! Index");
    edges.edge(noSegment, "too small", "text; write; size -1 ! Index; size MIN ! Index; size 0 = 1");
    edges.edge(noSegment, "too large", "text; write; 2x text; write; size 2 ! Index; size MAX ! Index; size 1 = 2");
    edges.edge(noSegment, "removed ones are in none", "text; write; text; remove 1; size -1 ! Index; size 1 ! Index");
    edges.edge(noSegment, "merged away", "text; write; text; write; size 1 = 1; merge 0; size 1 ! Index; size 0 = 2");
    edges.edge(noSegment, "taken back by a crash",
        "text; commit; text; write; size 1 = 1; crash; size 1 ! Index; size 0 = 1");
  }

  private static void addMerge(Edges edges) {
    edges.in("Promise 14: merge");
    String dropped = "Returns the number of documents that are dropped by this.";
    edges.edge(dropped, "none, and none that was dropped ahead",
        "2x text; write; text; write; text; write; remove 0; merge 0 = 1; merge 0 = 0");
    edges.edge(dropped, "those of both", "2x text; write; 2x text; write; remove 0; remove 3; merge 0 = 2; size 0 = 2");
    edges.edge(dropped, "none of another segment",
        "text; write; text; write; 2x text; write; remove 2; merge 0 = 0; size 1 = 2; removedShare = 1/4");
    String refused = "Throws `IndexOutOfBoundsException` if there is no such segment, or no next one";
    edges.edge(refused, "there is none", "merge 0 ! Index; merge -1 ! Index; text; merge 0 ! Index");
    edges.edge(refused, "there is one", "text; write; merge 0 ! Index; merge -1 ! Index; merge 1 ! Index; size 0 = 1");
    edges.edge(refused, "too small",
        "text; write; text; write; merge -1 ! Index; merge -2 ! Index; merge MIN ! Index; merge 0 = 0");
    edges.edge(refused, "the last one has no next one",
        "text; write; text; write; text; write; merge 2 ! Index; merge 1 = 0");
    edges.edge(refused, "too large",
        "text; write; text; write; merge 2 ! Index; merge 3 ! Index; merge MAX ! Index; segments = 2");
    edges.edge(refused, "a buffer is no next one", "text; write; text; merge 0 ! Index; write; merge 0 = 0");
    edges.edge(refused, "it drops nothing", "text; write; remove 0; merge 0 ! Index; size 0 = 1; removedShare = 1/1");
  }

  private static void addRemovedShare(Edges edges) {
    edges.in("Promise 36: removedShare");
    String share = "Returns their number divided by that of all documents in segments, both converted to float.";
    edges.edge(share, "none is removed", "text; write; removedShare = 0/1");
    edges.edge(share, "all are removed", "2x text; write; remove 0; remove 1; removedShare = 2/2");
    edges.edge(share, "a quotient that is rounded",
        "3x text; write; remove 1; removedShare = 1/3; remove 0; removedShare = 2/3");
    edges.edge(share, "3 of 30", "30x text; write; remove 0; remove 1; remove 2; removedShare = 3/30");
    edges.edge(share, "removed ahead of the writing counts to neither",
        "3x text; remove 0; write; remove 1; removedShare = 1/2");
    edges.edge(share, "the buffer counts to neither",
        "2x text; write; 2x text; remove 0; remove 2; removedShare = 1/2");
    edges.edge(share, "what was merged away counts to neither",
        "2x text; write; 2x text; write; remove 0; removedShare = 1/4; merge 0; removedShare = 0/3");
    edges.edge(share, "lost ones count to neither",
        "text; commit; text; write; remove 1; removedShare = 1/2; crash; removedShare = 0/1");
    String none = "Throws `ArithmeticException` if there are none";
    edges.edge(none, "an empty store", "removedShare ! Arithmetic");
    edges.edge(none, "a buffer alone", "2x text; remove 0; removedShare ! Arithmetic; write; removedShare = 0/1");
    edges.edge(none, "all merged away",
        "text; write; text; write; remove 0; remove 1; removedShare = 1/1; merge 0; removedShare ! Arithmetic");
    edges.edge(none, "all lost", "text; write; removedShare = 0/1; crash; removedShare ! Arithmetic");
  }
}
