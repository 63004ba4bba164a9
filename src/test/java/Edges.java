import java.util.ArrayList;
import java.util.List;

/** Tests of boundary cases, each under the sentence of the document that names the case. */
final class Edges {
  private final List<Edge> all = new ArrayList<>();
  private String section;

  static final class Edge {
    final String section;
    final String sentence;
    final String title;
    final Script script;

    Edge(String section, String sentence, String title, Script script) {
      this.section = section;
      this.sentence = sentence;
      this.title = title;
      this.script = script;
    }

    void check(Check check) {
      String name = section + ", \"" + sentence + "\", " + title;
      String fault = script.faultOf(new TallowIndex());
      check.tell(name, fault == null, fault);
      String modelFault = script.faultOf(new Model());
      check.tell(name + " (the model)", modelFault == null, modelFault);
      String trace = script.traceOfRefusal();
      check.tell(name + " (refused calls change nothing)", trace == null, trace);
    }
  }

  /** The edges that follow are of this section of the document. */
  void in(String section) {
    this.section = section;
  }

  void edge(String sentence, String title, String script) {
    try {
      all.add(new Edge(section, sentence, title, new Script(script)));
    } catch (RuntimeException e) {
      throw new AssertionError(section + ", " + title + ": " + script, e);
    }
  }

  List<Edge> all() {
    return all;
  }
}
