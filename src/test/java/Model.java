import java.util.ArrayList;
import java.util.Comparator;
import java.util.List;
import java.util.Map;
import java.util.NoSuchElementException;
import java.util.TreeMap;
import java.util.TreeSet;

/** The document once more, in another way: lists that are copied, and queries that are walked as trees. */
final class Model {
  private static final class Word {
    final int word;
    final int place;
    final int index;

    Word(int word, int place, int index) {
      this.word = word;
      this.place = place;
      this.index = index;
    }
  }

  private static final class Doc {
    int tag;
    int whole;
    int clicks;
    List<Word> text = new ArrayList<>();
  }

  /** What a crash takes back. */
  private static final class Stand {
    List<Character> states = new ArrayList<>();
    List<List<Integer>> segments = new ArrayList<>();

    Stand copy() {
      Stand copy = new Stand();
      copy.states.addAll(states);
      for (List<Integer> segment : segments) copy.segments.add(new ArrayList<>(segment));
      return copy;
    }
  }

  private static final class Ask {
    char kind;
    int a;
    int b;
    int distance;
    int weight;

    boolean isJoin() {
      return "aoxi".indexOf(kind) >= 0;
    }
  }

  private final List<int[]> steps = new ArrayList<>();
  private final List<Doc> docs = new ArrayList<>();
  private final Map<Integer, List<Integer>> views = new TreeMap<>();
  private final List<Ask> asks = new ArrayList<>();
  private Stand stand = new Stand();
  private Stand kept = new Stand();
  private List<Integer> replica = new ArrayList<>();
  private Doc open;
  private int commits;
  private int nextView;
  private int bound;

  public int addStep(char kind, int a, int b) {
    needArgument("lmscy".indexOf(kind) >= 0);
    needArgument(kind == 'l' || kind == 'm' || isWord(a));
    needArgument(kind != 'y' || isWord(b));
    needState(steps.size() < 6);
    steps.add(new int[] {kind, a, b});
    return steps.size();
  }

  public int dropSteps() {
    int before = steps.size();
    steps.clear();
    return before;
  }

  public int open(int tag, int whole) {
    needArgument(tag >= 0 && tag <= 5);
    needIndex(whole >= -1 && whole < docs.size());
    needState(open == null && docs.size() < 30);
    open = new Doc();
    open.tag = tag;
    open.whole = whole;
    return docs.size();
  }

  public int addWord(int word) {
    needArgument(isWord(word));
    needState(open != null && open.text.size() < 12);
    open.text.add(new Word(word, open.text.size(), open.text.size()));
    return open.text.size();
  }

  public int close() {
    needState(open != null);
    for (int[] step : steps) open.text = stepped(open.text, (char) step[0], step[1], step[2]);
    docs.add(open);
    stand.states.add('b');
    open = null;
    return docs.size() - 1;
  }

  private static List<Word> stepped(List<Word> text, char kind, int a, int b) {
    List<Word> out = new ArrayList<>();
    for (Word w : text) {
      if (kind == 'l') out.add(new Word(w.word % 30, w.place, w.index));
      else if (kind == 'm') out.add(new Word(w.word - w.word % 2, w.place, w.index));
      else if (kind == 's' && w.word != a) out.add(w);
      else if (kind == 'c' && w.word != a) out.add(new Word(w.word, w.place - ahead(text, a, w.place), w.index));
      else if (kind == 'y') out.add(w);
    }
    if (kind == 'y') {
      for (int place : places(text, a)) {
        if (!places(text, b).contains(place)) out.add(new Word(b, place, lowestIndex(text, a, place)));
      }
    }
    return out;
  }

  private static int ahead(List<Word> text, int word, int place) {
    return (int) text.stream().filter(w -> w.word == word && w.place < place).count();
  }

  private static int lowestIndex(List<Word> text, int word, int place) {
    return text.stream().filter(w -> w.word == word && w.place == place).mapToInt(w -> w.index).min().getAsInt();
  }

  private static TreeSet<Integer> places(List<Word> text, int word) {
    TreeSet<Integer> places = new TreeSet<>();
    for (Word w : text) if (w.word == word) places.add(w.place);
    return places;
  }

  public char remove(int document) {
    char before = state(document);
    needState(before == 'b' || before == 's');
    stand.states.set(document, 'r');
    return before;
  }

  public char state(int document) {
    isDocument(document);
    return stand.states.get(document);
  }

  public int length(int document) {
    isDocument(document);
    return docs.get(document).text.size();
  }

  public int standing(int document, int place, int word) {
    isDocument(document);
    return (int) docs.get(document).text.stream().filter(w -> w.place == place && w.word == word).count();
  }

  public int write() {
    List<Integer> segment = new ArrayList<>();
    for (int d = 0; d < docs.size(); d++) {
      if (stand.states.get(d) == 'b') segment.add(d);
    }
    for (int d : segment) stand.states.set(d, 's');
    if (!segment.isEmpty()) stand.segments.add(segment);
    return segment.size();
  }

  public int segments() {
    return stand.segments.size();
  }

  public int size(int segment) {
    needIndex(segment >= 0 && segment < segments());
    return stand.segments.get(segment).size();
  }

  public int merge(int segment) {
    needIndex(segment >= 0 && segment < segments() - 1);
    List<Integer> both = stand.segments.remove(segment);
    both.addAll(stand.segments.remove(segment));
    int before = both.size();
    both.removeIf(d -> stand.states.get(d) == 'r');
    if (!both.isEmpty()) stand.segments.add(segment, both);
    return before - both.size();
  }

  public int commit() {
    write();
    kept = stand.copy();
    return ++commits;
  }

  public int crash() {
    List<Character> before = stand.states;
    stand = kept.copy();
    while (stand.states.size() < docs.size()) stand.states.add('l');
    open = null;
    views.clear();
    int turned = 0;
    for (int d = 0; d < docs.size(); d++) {
      if ("bs".indexOf(before.get(d)) >= 0 != "bs".indexOf(stand.states.get(d)) >= 0) turned++;
    }
    return turned;
  }

  public int follow() {
    needState(commits > 0);
    replica = present(kept);
    return replica.size();
  }

  private static List<Integer> present(Stand stand) {
    List<Integer> present = new ArrayList<>();
    for (List<Integer> segment : stand.segments) {
      for (int d : segment) if (stand.states.get(d) != 'r') present.add(d);
    }
    present.sort(null);
    return present;
  }

  public boolean isOnReplica(int document) {
    isDocument(document);
    return replica.contains(document);
  }

  public int openView() {
    needState(views.size() < 4);
    views.put(nextView, present(stand));
    return nextView++;
  }

  public int closeView(int view) {
    needIndex(views.remove(view) != null);
    return views.size();
  }

  public int seen(int view) {
    return view(view).size();
  }

  public int ask(char kind, int a, int b, int distance, int weight) {
    needArgument("wpn".indexOf(kind) >= 0 && isWord(a) && weight >= 1 && weight <= 9);
    needArgument(kind == 'w' || isWord(b));
    needArgument(kind != 'n' || distance >= 1 && distance <= 9);
    needState(asks.size() < 40);
    return addQuery(kind, a, b, distance, weight);
  }

  public int join(char kind, int first, int second) {
    needArgument("aoxi".indexOf(kind) >= 0);
    isQuery(first);
    isQuery(second);
    needState(asks.size() < 40 && wordQueries(first) + wordQueries(second) <= 20);
    return addQuery(kind, first, second, 0, 0);
  }

  private int addQuery(char kind, int a, int b, int distance, int weight) {
    Ask ask = new Ask();
    ask.kind = kind;
    ask.a = a;
    ask.b = b;
    ask.distance = distance;
    ask.weight = weight;
    asks.add(ask);
    return asks.size() - 1;
  }

  private int wordQueries(int query) {
    Ask ask = asks.get(query);
    return ask.isJoin() ? wordQueries(ask.a) + wordQueries(ask.b) : 1;
  }

  private static int times(Ask ask, List<Word> text) {
    if (ask.kind == 'w') return (int) text.stream().filter(w -> w.word == ask.a).count();
    int couples = 0;
    for (int one : places(text, ask.a)) {
      for (int other : places(text, ask.b)) if (fits(ask, one, other)) couples++;
    }
    return couples;
  }

  private static boolean fits(Ask ask, int one, int other) {
    return ask.kind == 'p' ? other == one + 1 : one != other && Math.abs(one - other) <= ask.distance;
  }

  /** The score of a document of a view, null if it does not match. */
  private Long scored(List<Integer> view, int query, int document) {
    Ask ask = asks.get(query);
    if (!ask.isJoin()) return scoredWords(view, ask, document);
    Long one = scored(view, ask.a, document);
    Long other = scored(view, ask.b, document);
    if (ask.kind == 'x') return other == null ? one : null;
    if (ask.kind == 'a') return one == null || other == null ? null : (Long) (one + other);
    if (one == null) return ask.kind == 'o' ? other : null;
    return other == null ? one : (Long) (one + other);
  }

  private Long scoredWords(List<Integer> view, Ask ask, int document) {
    long t = times(ask, docs.get(document).text);
    if (t == 0) return null;
    long n = view.size();
    long m = view.stream().filter(d -> times(ask, docs.get(d).text) > 0).count();
    long k = docs.get(document).text.size();
    return 100 * t * (n + 1) / ((m + 1) * (k + 4)) * ask.weight;
  }

  private List<Integer> found(int view, int query) {
    List<Integer> seen = view(view);
    isQuery(query);
    List<Integer> found = new ArrayList<>();
    for (int d : seen) if (scored(seen, query, d) != null) found.add(d);
    Comparator<Integer> byRank =
        Comparator.comparing(d -> scored(seen, query, d) + Math.min(docs.get(d).clicks, bound));
    found.sort(byRank.reversed().thenComparing(d -> d));
    return found;
  }

  public int hits(int view, int query) {
    return found(view, query).size();
  }

  public int hit(int view, int query, int index) {
    List<Integer> found = found(view, query);
    needElement(index >= 0 && index < found.size());
    return found.get(index);
  }

  public long score(int view, int query, int index) {
    return scored(view(view), query, hit(view, query, index));
  }

  public long scoreAlone(int view, int query, int document) {
    List<Integer> seen = view(view);
    isQuery(query);
    needIndex(seen.contains(document));
    Long score = scored(seen, query, document);
    return score == null ? -1 : score;
  }

  public int tagged(int view, int query, int tag) {
    return withTag(view, query, tag).size();
  }

  public int firstTagged(int view, int query, int tag) {
    List<Integer> found = withTag(view, query, tag);
    needElement(!found.isEmpty());
    return found.get(0);
  }

  private List<Integer> withTag(int view, int query, int tag) {
    List<Integer> found = found(view, query);
    needArgument(tag >= 0 && tag <= 5);
    found.removeIf(d -> docs.get(d).tag != tag);
    return found;
  }

  public int wholes(int view, int query) {
    TreeSet<Integer> wholes = new TreeSet<>();
    for (int d : found(view, query)) wholes.add(docs.get(d).whole);
    wholes.retainAll(view(view));
    return wholes.size();
  }

  public long wholeScore(int view, int query, int document) {
    List<Integer> found = found(view, query);
    needIndex(view(view).contains(document));
    found.removeIf(d -> docs.get(d).whole != document);
    needElement(!found.isEmpty());
    return found.stream().mapToLong(d -> scored(view(view), query, d)).max().getAsLong();
  }

  public int marked(int query, int document, int number) {
    isQuery(query);
    isDocument(document);
    TreeSet<Integer> marks = new TreeSet<>();
    mark(query, docs.get(document).text, marks);
    needElement(number >= 0 && number < marks.size());
    return new ArrayList<>(marks).get(number);
  }

  private void mark(int query, List<Word> text, TreeSet<Integer> marks) {
    Ask ask = asks.get(query);
    if (ask.isJoin()) {
      mark(ask.a, text, marks);
      if (ask.kind != 'x') mark(ask.b, text, marks);
      return;
    }
    for (Word one : text) {
      if (one.word != ask.a) continue;
      if (ask.kind == 'w') marks.add(one.index);
      for (Word other : text) {
        if (ask.kind == 'w' || other.word != ask.b || !fits(ask, one.place, other.place)) continue;
        marks.add(one.index);
        marks.add(other.index);
      }
    }
  }

  public int click(int document) {
    isDocument(document);
    return ++docs.get(document).clicks;
  }

  public int setBound(int bound) {
    needArgument(bound >= 0 && bound <= 999);
    int before = this.bound;
    this.bound = bound;
    return before;
  }

  public int turned(int view, int query) {
    List<Integer> found = found(view, query);
    int turned = 0;
    for (int one : found) {
      for (int other : found) {
        boolean isAhead = found.indexOf(one) < found.indexOf(other);
        if (isAhead && scored(view(view), query, one) < scored(view(view), query, other)) turned++;
      }
    }
    return turned;
  }

  public float removedShare() {
    int all = stand.segments.stream().mapToInt(List::size).sum();
    if (all == 0) throw new ArithmeticException();
    return (float) (all - present(stand).size()) / (float) all;
  }

  public double meanLength(int view) {
    List<Integer> seen = view(view);
    if (seen.isEmpty()) throw new ArithmeticException();
    int sum = 0;
    for (int d : seen) sum += length(d);
    return (double) sum / (double) seen.size();
  }

  private List<Integer> view(int view) {
    needIndex(views.containsKey(view));
    return views.get(view);
  }

  private void isDocument(int document) {
    needIndex(document >= 0 && document < docs.size());
  }

  private void isQuery(int query) {
    needIndex(query >= 0 && query < asks.size());
  }

  private static boolean isWord(int word) {
    return word >= 0 && word <= 59;
  }

  private static void needArgument(boolean isRight) {
    if (!isRight) throw new IllegalArgumentException();
  }

  private static void needIndex(boolean isRight) {
    if (!isRight) throw new IndexOutOfBoundsException();
  }

  private static void needState(boolean isRight) {
    if (!isRight) throw new IllegalStateException();
  }

  private static void needElement(boolean isRight) {
    if (!isRight) throw new NoSuchElementException();
  }
}
