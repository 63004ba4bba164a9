import java.util.ArrayList;
import java.util.List;

/**
 * Tells what calls can find out of an index; the index is another one afterwards. It makes no call that is due to be
 * refused, since what such a call changes is just what is looked for.
 */
final class Probe {
  private static final int QUERIES_LOOKED_AT = 3;

  private final Calls calls;
  private final List<String> told = new ArrayList<>();

  private Probe(Calls calls) {
    this.calls = calls;
  }

  static List<String> tell(Calls calls) {
    Probe probe = new Probe(calls);
    probe.tellDocuments();
    probe.tellSegments();
    probe.tellViews();
    probe.tellOpenText();
    probe.tellSteps();
    probe.tellTagsAndWholes();
    probe.tellClicksAndBound();
    probe.tellCommit();
    probe.tellNextNumbers();
    return probe.told;
  }

  static String difference(List<String> without, List<String> with) {
    for (int i = 0; i < without.size() && i < with.size(); i++) {
      if (!without.get(i).equals(with.get(i))) return with.get(i) + ", and without it " + without.get(i);
    }
    return without.size() == with.size() ? null : "another number of answers";
  }

  private String call(String name, Object... arguments) {
    String answer = calls.answer(name, arguments);
    told.add(name + List.of(arguments) + " " + answer);
    return answer;
  }

  /** What was due to be a number and is none shows as a difference; until then it counts as 0. */
  private int number(String name, Object... arguments) {
    String answer = call(name, arguments);
    return answer.startsWith("throws") ? 0 : Integer.parseInt(answer);
  }

  private void tellDocuments() {
    for (int document = 0; document < calls.documents; document++) {
      call("state", document);
      call("length", document);
      call("isOnReplica", document);
    }
  }

  private void tellSegments() {
    int segments = number("segments");
    int all = 0;
    for (int segment = 0; segment < segments; segment++) all += number("size", segment);
    if (all > 0) call("removedShare");
  }

  private void tellViews() {
    for (int view : calls.views) {
      if (number("seen", view) > 0) call("meanLength", view);
      for (int query = 0; query < calls.queries && query < QUERIES_LOOKED_AT; query++) {
        int hits = number("hits", view, query);
        if (hits == 0) continue;
        call("hit", view, query, 0);
        call("score", view, query, hits - 1);
      }
    }
  }

  private void tellOpenText() {
    if (!calls.isTextOpen) return;
    if (calls.words < 12) call("addWord", 37);
    int document = number("close");
    call("length", document);
    for (int place = 0; place < 3; place++) call("standing", document, place, 7);
  }

  private void tellSteps() {
    if (calls.documents < 30) {
      call("open", 0, -1);
      for (int word : new int[] {37, 1, 2}) call("addWord", word);
      int document = number("close");
      for (int word : new int[] {37, 36, 7, 6}) call("standing", document, 0, word);
      for (int word : new int[] {0, 1, 2}) call("standing", document, 1, word);
      call("length", document);
    }
    call("dropSteps");
  }

  /** The tag and the whole of a text that was open show when it is in a segment. */
  private void tellTagsAndWholes() {
    call("write");
    if (calls.views.size() == 4) call("closeView", calls.views.get(0));
    int view = number("openView");
    int query = calls.queries < 40 ? number("ask", 'w', 7, 0, 0, 1) : 0;
    for (int tag = 0; tag < 6; tag++) call("tagged", view, query, tag);
    call("wholes", view, query);
  }

  private void tellClicksAndBound() {
    call("setBound", 0);
    for (int document = 0; document < calls.documents; document++) call("click", document);
  }

  /** What was committed shows when the replica follows it, and behind a crash. */
  private void tellCommit() {
    if (calls.commits > 0) call("follow");
    call("crash");
    for (int document = 0; document < calls.documents; document++) {
      call("isOnReplica", document);
      call("state", document);
    }
    tellSegments();
  }

  private void tellNextNumbers() {
    call("commit");
    call("openView");
    if (calls.queries < 40) call("ask", 'w', 1, 0, 0, 1);
  }
}
