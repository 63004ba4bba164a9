import java.util.ArrayList;
import java.util.NoSuchElementException;

/** A full text store; what each public call answers is promised in DOC.md. */
public final class TallowIndex {
  private static final int WORDS = 60;
  private static final int TAGS = 6;
  private static final int MOST_STEPS = 6;
  private static final int MOST_WORDS = 12;
  // A text has at most twelve places with words, and a step puts at most one word more at each.
  private static final int MOST_PLACED = MOST_WORDS * (MOST_STEPS + 1);
  private static final int MOST_DOCUMENTS = 30;
  private static final int MOST_VIEWS = 4;
  private static final int MOST_QUERIES = 40;
  private static final int MOST_WORD_QUERIES = 20;
  private static final int MOST_DISTANCE = 9;
  private static final int MOST_WEIGHT = 9;
  private static final int MOST_BOUND = 999;

  private static final char IN_BUFFER = 'b';
  private static final char IN_SEGMENT = 's';
  private static final char REMOVED = 'r';
  private static final char LOST = 'l';

  private static final int NO_WHOLE = -1;
  private static final int NO_SEGMENT = -1;
  private static final int NO_SCORE = -1;
  private static final int NO_INDEX = -1;

  private final ArrayList<Step> steps = new ArrayList<Step>();
  private final ArrayList<Document> documents = new ArrayList<Document>();
  private final ArrayList<View> views = new ArrayList<View>();
  private final ArrayList<Query> queries = new ArrayList<Query>();
  private final Shelf shelf = new Shelf();
  private final Shelf committed = new Shelf();
  private final Row replica = new Row(MOST_DOCUMENTS);
  private final Search search = new Search();
  private Document opened;
  private int commits;
  private int viewsOpened;
  private int bound;

  public TallowIndex() {
  }

  // ---- steps and documents

  public int addStep(char kind, int a, int b) throws IllegalArgumentException, IllegalStateException {
    if (!Step.canBe(kind, a, b)) throw new IllegalArgumentException("no such kind or word");
    if (steps.size() >= MOST_STEPS) throw new IllegalStateException("all steps are told");
    steps.add(new Step(kind, a, b));
    return steps.size();
  }

  public int dropSteps() {
    int dropped = steps.size();
    steps.clear();
    return dropped;
  }

  public int open(int tag, int whole)
      throws IllegalArgumentException, IndexOutOfBoundsException, IllegalStateException {
    checkTag(tag);
    if (whole != NO_WHOLE) checkDocument(whole);
    if (opened != null) throw new IllegalStateException("a text is open");
    if (documents.size() >= MOST_DOCUMENTS) throw new IllegalStateException("all documents are numbered");
    opened = new Document(tag, whole);
    return documents.size();
  }

  public int addWord(int word) throws IllegalArgumentException, IllegalStateException {
    if (!isWord(word)) throw new IllegalArgumentException("no such word");
    Document document = opened;
    if (document == null) throw new IllegalStateException("no text is open");
    Text text = document.text;
    if (text.count >= MOST_WORDS) throw new IllegalStateException("the text is full");
    text.append(word, text.count, text.count);
    return text.count;
  }

  public int close() throws IllegalStateException {
    Document document = opened;
    if (document == null) throw new IllegalStateException("no text is open");
    for (int i = 0; i < steps.size(); i++) steps.get(i).change(document.text);
    documents.add(document);
    shelf.addToBuffer();
    opened = null;
    return documents.size() - 1;
  }

  public char remove(int document) throws IndexOutOfBoundsException, IllegalStateException {
    checkDocument(document);
    char before = shelf.stateOf(document);
    if (!shelf.lives(document)) throw new IllegalStateException("the document is removed or lost");
    shelf.takeOut(document);
    return before;
  }

  public char state(int document) throws IndexOutOfBoundsException {
    checkDocument(document);
    return shelf.stateOf(document);
  }

  public int length(int document) throws IndexOutOfBoundsException {
    return documentNumbered(document).text.count;
  }

  public int standing(int document, int place, int word) throws IndexOutOfBoundsException {
    return documentNumbered(document).text.timesAt(place, word);
  }

  // ---- segments, commits, views

  public int write() {
    return shelf.writeBuffer();
  }

  public int segments() {
    return shelf.segmentCount;
  }

  public int size(int segment) throws IndexOutOfBoundsException {
    if (!shelf.hasSegment(segment)) throw new IndexOutOfBoundsException("no such segment");
    return shelf.documentsIn(segment);
  }

  public int merge(int segment) throws IndexOutOfBoundsException {
    if (!shelf.hasSegment(segment)) throw new IndexOutOfBoundsException("no such segment");
    if (!shelf.hasSegment(segment + 1)) throw new IndexOutOfBoundsException("no next segment");
    return shelf.mergeWithNext(segment);
  }

  public int commit() {
    shelf.writeBuffer();
    committed.takeOver(shelf);
    commits++;
    return commits;
  }

  public int crash() {
    opened = null;
    views.clear();
    return shelf.goBackTo(committed);
  }

  public int follow() throws IllegalStateException {
    if (commits == 0) throw new IllegalStateException("nothing was committed");
    return committed.listPresent(replica);
  }

  public boolean isOnReplica(int document) throws IndexOutOfBoundsException {
    checkDocument(document);
    return replica.get(document) == 1;
  }

  public int openView() throws IllegalStateException {
    if (views.size() >= MOST_VIEWS) throw new IllegalStateException("all views are open");
    Row present = new Row(MOST_DOCUMENTS);
    int count = shelf.listPresent(present);
    views.add(new View(viewsOpened, present, count));
    viewsOpened++;
    return viewsOpened - 1;
  }

  public int closeView(int view) throws IndexOutOfBoundsException {
    int slot = slotOf(view);
    if (slot < 0) throw new IndexOutOfBoundsException("no such open view");
    views.remove(slot);
    return views.size();
  }

  public int seen(int view) throws IndexOutOfBoundsException {
    return viewNumbered(view).count;
  }

  // ---- queries

  public int ask(char kind, int a, int b, int distance, int weight)
      throws IllegalArgumentException, IllegalStateException {
    if (!Query.canAsk(kind, a, b, distance)) throw new IllegalArgumentException("no such kind, word or distance");
    if (weight < 1 || weight > MOST_WEIGHT) throw new IllegalArgumentException("no such weight");
    if (queries.size() >= MOST_QUERIES) throw new IllegalStateException("all queries are numbered");
    queries.add(new Query(kind, a, b, distance, weight, 1));
    return queries.size() - 1;
  }

  public int join(char kind, int first, int second)
      throws IllegalArgumentException, IndexOutOfBoundsException, IllegalStateException {
    if (!Query.canJoin(kind)) throw new IllegalArgumentException("no such kind");
    checkQuery(first);
    checkQuery(second);
    if (queries.size() >= MOST_QUERIES) throw new IllegalStateException("all queries are numbered");
    int made = queries.get(first).wordQueries + queries.get(second).wordQueries;
    if (made > MOST_WORD_QUERIES) throw new IllegalStateException("too many queries of words");
    queries.add(new Query(kind, first, second, 0, 0, made));
    return queries.size() - 1;
  }

  public int hits(int view, int query) throws IndexOutOfBoundsException {
    find(view, query);
    return search.found;
  }

  public int hit(int view, int query, int index) throws IndexOutOfBoundsException, NoSuchElementException {
    find(view, query);
    checkHit(index);
    return search.hitAt(index);
  }

  public long score(int view, int query, int index) throws IndexOutOfBoundsException, NoSuchElementException {
    find(view, query);
    checkHit(index);
    return search.scoreOf(search.hitAt(index));
  }

  public long scoreAlone(int view, int query, int document) throws IndexOutOfBoundsException {
    find(view, query).checkSees(document);
    return search.scoreOf(document);
  }

  public int tagged(int view, int query, int tag) throws IndexOutOfBoundsException, IllegalArgumentException {
    find(view, query);
    checkTag(tag);
    int times = 0;
    for (int i = 0; i < search.found; i++) {
      if (tagOf(search.hitAt(i)) == tag) times++;
    }
    return times;
  }

  public int firstTagged(int view, int query, int tag)
      throws IndexOutOfBoundsException, IllegalArgumentException, NoSuchElementException {
    find(view, query);
    checkTag(tag);
    for (int i = 0; i < search.found; i++) {
      if (tagOf(search.hitAt(i)) == tag) return search.hitAt(i);
    }
    throw new NoSuchElementException("no hit has the tag");
  }

  public int wholes(int view, int query) throws IndexOutOfBoundsException {
    View from = find(view, query);
    int times = 0;
    for (int document = 0; document < documents.size(); document++) {
      if (from.sees(document) && bestPartOf(document) != NO_SCORE) times++;
    }
    return times;
  }

  public long wholeScore(int view, int query, int document)
      throws IndexOutOfBoundsException, NoSuchElementException {
    find(view, query).checkSees(document);
    int best = bestPartOf(document);
    if (best == NO_SCORE) throw new NoSuchElementException("it is the whole of no hit");
    return best;
  }

  public int marked(int query, int document, int number)
      throws IndexOutOfBoundsException, NoSuchElementException {
    checkQuery(query);
    int index = search.markedIndex(queries, query, documentNumbered(document).text, number);
    if (index == NO_INDEX) throw new NoSuchElementException("no such number");
    return index;
  }

  // ---- clicks and figures

  public int click(int document) throws IndexOutOfBoundsException {
    Document clicked = documentNumbered(document);
    clicked.clicks++;
    return clicked.clicks;
  }

  public int setBound(int bound) throws IllegalArgumentException {
    if (bound < 0 || bound > MOST_BOUND) throw new IllegalArgumentException("the bound is out of range");
    int before = this.bound;
    this.bound = bound;
    return before;
  }

  public int turned(int view, int query) throws IndexOutOfBoundsException {
    find(view, query);
    int couples = 0;
    for (int later = 1; later < search.found; later++) {
      for (int ahead = 0; ahead < later; ahead++) {
        if (search.scoreOf(search.hitAt(ahead)) < search.scoreOf(search.hitAt(later))) couples++;
      }
    }
    return couples;
  }

  public float removedShare() throws ArithmeticException {
    int all = shelf.inSegments();
    if (all == 0) throw new ArithmeticException("no documents are in segments");
    return (float) shelf.removedInSegments() / (float) all;
  }

  public double meanLength(int view) throws IndexOutOfBoundsException, ArithmeticException {
    View from = viewNumbered(view);
    if (from.count == 0) throw new ArithmeticException("the view has no documents");
    int sum = 0;
    for (int document = 0; document < documents.size(); document++) {
      if (from.sees(document)) sum += documents.get(document).text.count;
    }
    return (double) sum / (double) from.count;
  }

  // ---- what the calls share

  private static boolean isWord(int word) {
    return word >= 0 && word < WORDS;
  }

  private static void checkTag(int tag) {
    if (tag < 0 || tag >= TAGS) throw new IllegalArgumentException("no such tag");
  }

  private void checkDocument(int number) {
    if (number < 0 || number >= documents.size()) throw new IndexOutOfBoundsException("no such document");
  }

  private void checkQuery(int number) {
    if (number < 0 || number >= queries.size()) throw new IndexOutOfBoundsException("no such query");
  }

  private Document documentNumbered(int number) {
    checkDocument(number);
    return documents.get(number);
  }

  private int slotOf(int view) {
    for (int slot = 0; slot < views.size(); slot++) {
      if (views.get(slot).number == view) return slot;
    }
    return -1;
  }

  private View viewNumbered(int number) {
    int slot = slotOf(number);
    if (slot < 0) throw new IndexOutOfBoundsException("no such open view");
    return views.get(slot);
  }

  private View find(int view, int query) {
    View from = viewNumbered(view);
    checkQuery(query);
    search.run(documents, queries, from, query, bound);
    return from;
  }

  private void checkHit(int index) {
    if (index < 0 || index >= search.found) throw new NoSuchElementException("no such hit");
  }

  private int tagOf(int document) {
    return document < 0 || document >= documents.size() ? -1 : documents.get(document).tag;
  }

  /** The greatest score of the hits that were found last, of those whose whole it is. */
  private int bestPartOf(int whole) {
    int best = NO_SCORE;
    for (int document = 0; document < documents.size(); document++) {
      if (documents.get(document).whole != whole) continue;
      if (search.scoreOf(document) > best) best = search.scoreOf(document);
    }
    return best;
  }

  /** A row of numbers that answers 0 and keeps nothing outside its ends, so that no index can throw. */
  private static final class Row {
    private final int[] cells;

    Row(int width) {
      cells = new int[width < 0 ? 0 : width];
    }

    int get(int at) {
      return at < 0 || at >= cells.length ? 0 : cells[at];
    }

    void put(int at, int value) {
      if (at >= 0 && at < cells.length) cells[at] = value;
    }

    void fill(int value) {
      for (int at = 0; at < cells.length; at++) cells[at] = value;
    }

    void copyFrom(Row other) {
      for (int at = 0; at < cells.length; at++) cells[at] = other.get(at);
    }
  }

  /** Words at places, each with its index in the first text. */
  private static final class Text {
    private final Row words = new Row(MOST_PLACED);
    private final Row places = new Row(MOST_PLACED);
    private final Row indexes = new Row(MOST_PLACED);
    private int count;

    void append(int word, int place, int index) {
      if (count >= MOST_PLACED) return;
      words.put(count, word);
      places.put(count, place);
      indexes.put(count, index);
      count++;
    }

    void lower() {
      for (int i = 0; i < count; i++) {
        int word = words.get(i);
        if (word >= WORDS / 2) words.put(i, word - WORDS / 2);
      }
    }

    void makeEven() {
      for (int i = 0; i < count; i++) words.put(i, words.get(i) & ~1);
    }

    void takeOut(int word) {
      int kept = 0;
      for (int i = 0; i < count; i++) {
        if (words.get(i) == word) continue;
        words.put(kept, words.get(i));
        places.put(kept, places.get(i));
        indexes.put(kept, indexes.get(i));
        kept++;
      }
      count = kept;
    }

    void closeUp(int word) {
      // The words that go keep their places until all others have moved, for they are counted by them.
      for (int i = 0; i < count; i++) {
        int place = places.get(i);
        if (words.get(i) != word) places.put(i, place - timesAhead(place, word));
      }
      takeOut(word);
    }

    void putBeside(int word, int other) {
      int before = count;
      for (int i = 0; i < before; i++) {
        int place = places.get(i);
        if (words.get(i) == word && timesAt(place, other) == 0) append(other, place, firstIndexAt(place, word));
      }
    }

    int times(int word) {
      int times = 0;
      for (int i = 0; i < count; i++) {
        if (words.get(i) == word) times++;
      }
      return times;
    }

    int timesAt(int place, int word) {
      int times = 0;
      for (int i = 0; i < count; i++) {
        if (words.get(i) == word && places.get(i) == place) times++;
      }
      return times;
    }

    /** A word can stand at one place several times; the first of these stands for the place. */
    boolean isFirstAtPlace(int entry) {
      for (int i = 0; i < entry; i++) {
        if (words.get(i) == words.get(entry) && places.get(i) == places.get(entry)) return false;
      }
      return true;
    }

    private int timesAhead(int place, int word) {
      int times = 0;
      for (int i = 0; i < count; i++) {
        if (words.get(i) == word && places.get(i) < place) times++;
      }
      return times;
    }

    private int firstIndexAt(int place, int word) {
      int first = MOST_WORDS;
      for (int i = 0; i < count; i++) {
        boolean here = words.get(i) == word && places.get(i) == place;
        if (here && indexes.get(i) < first) first = indexes.get(i);
      }
      return first;
    }
  }

  private static final class Step {
    private final char kind;
    private final int first;
    private final int second;

    Step(char kind, int first, int second) {
      this.kind = kind;
      this.first = first;
      this.second = second;
    }

    static boolean canBe(char kind, int first, int second) {
      if (kind == 'l' || kind == 'm') return true;
      if (kind == 's' || kind == 'c') return isWord(first);
      return kind == 'y' && isWord(first) && isWord(second);
    }

    void change(Text text) {
      if (kind == 'l') text.lower();
      if (kind == 'm') text.makeEven();
      if (kind == 's') text.takeOut(first);
      if (kind == 'c') text.closeUp(first);
      if (kind == 'y') text.putBeside(first, second);
    }
  }

  private static final class Document {
    private final int tag;
    private final int whole;
    private final Text text = new Text();
    private int clicks;

    Document(int tag, int whole) {
      this.tag = tag;
      this.whole = whole;
    }
  }

  /** How each document is, and which segment it is in: all that a commit keeps and a crash takes back. */
  private static final class Shelf {
    private final Row states = new Row(MOST_DOCUMENTS);
    private final Row homes = new Row(MOST_DOCUMENTS);
    private int documentCount;
    private int segmentCount;

    void addToBuffer() {
      states.put(documentCount, IN_BUFFER);
      homes.put(documentCount, NO_SEGMENT);
      documentCount++;
    }

    char stateOf(int document) {
      return (char) states.get(document);
    }

    boolean lives(int document) {
      return stateOf(document) == IN_BUFFER || stateOf(document) == IN_SEGMENT;
    }

    void takeOut(int document) {
      states.put(document, REMOVED);
    }

    int writeBuffer() {
      int written = 0;
      for (int document = 0; document < documentCount; document++) {
        if (stateOf(document) != IN_BUFFER) continue;
        states.put(document, IN_SEGMENT);
        homes.put(document, segmentCount);
        written++;
      }
      if (written > 0) segmentCount++;
      return written;
    }

    boolean hasSegment(int segment) {
      return segment >= 0 && segment < segmentCount;
    }

    int documentsIn(int segment) {
      int times = 0;
      for (int document = 0; document < documentCount; document++) {
        if (homes.get(document) == segment) times++;
      }
      return times;
    }

    int mergeWithNext(int segment) {
      int dropped = 0;
      int left = 0;
      for (int document = 0; document < documentCount; document++) {
        int home = homes.get(document);
        if (home != segment && home != segment + 1) continue;
        if (stateOf(document) == REMOVED) {
          homes.put(document, NO_SEGMENT);
          dropped++;
        } else {
          homes.put(document, segment);
          left++;
        }
      }
      moveUp(segment + 1, left == 0 ? 2 : 1);
      return dropped;
    }

    private void moveUp(int segment, int by) {
      for (int document = 0; document < documentCount; document++) {
        int home = homes.get(document);
        if (home > segment) homes.put(document, home - by);
      }
      segmentCount -= by;
    }

    void takeOver(Shelf other) {
      states.copyFrom(other.states);
      homes.copyFrom(other.homes);
      documentCount = other.documentCount;
      segmentCount = other.segmentCount;
    }

    /** Lost documents keep their numbers, so the count of documents does not go back. */
    int goBackTo(Shelf kept) {
      int turned = 0;
      for (int document = 0; document < documentCount; document++) {
        boolean lived = lives(document);
        boolean isLater = document >= kept.documentCount;
        states.put(document, isLater ? LOST : kept.stateOf(document));
        homes.put(document, isLater ? NO_SEGMENT : kept.homes.get(document));
        if (lives(document) != lived) turned++;
      }
      segmentCount = kept.segmentCount;
      return turned;
    }

    /** Puts a 1 for each document that is in a segment and not removed, else a 0; answers how many there are. */
    int listPresent(Row list) {
      int present = 0;
      list.fill(0);
      for (int document = 0; document < documentCount; document++) {
        if (stateOf(document) != IN_SEGMENT) continue;
        list.put(document, 1);
        present++;
      }
      return present;
    }

    int inSegments() {
      int times = 0;
      for (int document = 0; document < documentCount; document++) {
        if (homes.get(document) != NO_SEGMENT) times++;
      }
      return times;
    }

    int removedInSegments() {
      int times = 0;
      for (int document = 0; document < documentCount; document++) {
        if (homes.get(document) != NO_SEGMENT && stateOf(document) == REMOVED) times++;
      }
      return times;
    }
  }

  private static final class View {
    private final int number;
    private final Row present;
    private final int count;

    View(int number, Row present, int count) {
      this.number = number;
      this.present = present;
      this.count = count;
    }

    boolean sees(int document) {
      return present.get(document) == 1;
    }

    void checkSees(int document) {
      if (!sees(document)) throw new IndexOutOfBoundsException("the document is not in the view");
    }
  }

  /** A query of words, whose first and second are words, or of queries, whose first and second are queries. */
  private static final class Query {
    private final char kind;
    private final int first;
    private final int second;
    private final int distance;
    private final int weight;
    private final int wordQueries;

    Query(char kind, int first, int second, int distance, int weight, int wordQueries) {
      this.kind = kind;
      this.first = first;
      this.second = second;
      this.distance = distance;
      this.weight = weight;
      this.wordQueries = wordQueries;
    }

    static boolean canAsk(char kind, int first, int second, int distance) {
      if (kind == 'w') return isWord(first);
      if (kind == 'p') return isWord(first) && isWord(second);
      boolean isNear = distance >= 1 && distance <= MOST_DISTANCE;
      return kind == 'n' && isWord(first) && isWord(second) && isNear;
    }

    static boolean canJoin(char kind) {
      return kind == 'a' || kind == 'o' || kind == 'x' || kind == 'i';
    }

    boolean isOfWords() {
      return !canJoin(kind);
    }

    void nameParts(Row parts, boolean isForMarks) {
      if (isOfWords()) return;
      parts.put(first, 1);
      if (kind != 'x' || !isForMarks) parts.put(second, 1);
    }

    int timesIn(Text text) {
      if (kind == 'w') return text.times(first);
      int couples = 0;
      for (int i = 0; i < text.count; i++) {
        if (text.words.get(i) != first || !text.isFirstAtPlace(i)) continue;
        for (int j = 0; j < text.count; j++) {
          if (isCouple(text, i, j) && text.isFirstAtPlace(j)) couples++;
        }
      }
      return couples;
    }

    void mark(Text text, Row marks) {
      for (int i = 0; i < text.count; i++) {
        if (text.words.get(i) != first) continue;
        if (kind == 'w') marks.put(text.indexes.get(i), 1);
        else markCouples(text, i, marks);
      }
    }

    private void markCouples(Text text, int i, Row marks) {
      for (int j = 0; j < text.count; j++) {
        if (!isCouple(text, i, j)) continue;
        marks.put(text.indexes.get(i), 1);
        marks.put(text.indexes.get(j), 1);
      }
    }

    /** Asks of an entry i that is known to be the first word. */
    private boolean isCouple(Text text, int i, int j) {
      if (text.words.get(j) != second) return false;
      int gap = text.places.get(j) - text.places.get(i);
      if (kind == 'p') return gap == 1;
      return gap != 0 && gap >= -distance && gap <= distance;
    }

    /** An int holds it: a text of 84 words has at most 132 couples, and a query at most 20 parts of weight 9. */
    int scoreFor(int times, int length, int seen, int matching) {
      int divisor = (matching + 1) * (length + 4);
      if (divisor <= 0) return 0;
      return 100 * times * (seen + 1) / divisor * weight;
    }

    int joinScores(int one, int other) {
      boolean isBoth = one != NO_SCORE && other != NO_SCORE;
      if (kind == 'x') return other == NO_SCORE ? one : NO_SCORE;
      if (isBoth) return one + other;
      if (kind == 'a') return NO_SCORE;
      if (kind == 'i') return one;
      return one == NO_SCORE ? other : one;
    }
  }

  /** The hits of the query that was run last. Its rows are used again by each call, to make none anew. */
  private static final class Search {
    private final Row parts = new Row(MOST_QUERIES);
    private final Row times = new Row(MOST_DOCUMENTS);
    private final Row scores = new Row(MOST_QUERIES * MOST_DOCUMENTS);
    private final Row ranks = new Row(MOST_DOCUMENTS);
    private final Row order = new Row(MOST_DOCUMENTS);
    private final Row marks = new Row(MOST_WORDS);
    private int asked;
    private int found;

    void run(ArrayList<Document> documents, ArrayList<Query> queries, View view, int query, int bound) {
      asked = query;
      gatherParts(queries, query, false);
      for (int part = 0; part <= query && part < queries.size(); part++) {
        if (parts.get(part) == 0) continue;
        if (queries.get(part).isOfWords()) scoreWords(documents, queries.get(part), part, view);
        else scoreJoined(documents.size(), queries.get(part), part);
      }
      orderHits(documents, bound);
    }

    int hitAt(int index) {
      return order.get(index);
    }

    int scoreOf(int document) {
      return scores.get(cell(asked, document));
    }

    int markedIndex(ArrayList<Query> queries, int query, Text text, int number) {
      gatherParts(queries, query, true);
      marks.fill(0);
      for (int part = 0; part <= query && part < queries.size(); part++) {
        if (parts.get(part) == 1 && queries.get(part).isOfWords()) queries.get(part).mark(text, marks);
      }
      int ahead = 0;
      for (int index = 0; index < MOST_WORDS; index++) {
        if (marks.get(index) == 0) continue;
        if (ahead == number) return index;
        ahead++;
      }
      return NO_INDEX;
    }

    /** A query is made of earlier ones alone, so that one way down the numbers meets all its parts. */
    private void gatherParts(ArrayList<Query> queries, int query, boolean isForMarks) {
      parts.fill(0);
      parts.put(query, 1);
      for (int part = query; part >= 0; part--) {
        if (parts.get(part) == 1 && part < queries.size()) queries.get(part).nameParts(parts, isForMarks);
      }
    }

    private void scoreWords(ArrayList<Document> documents, Query query, int part, View view) {
      int matching = 0;
      for (int document = 0; document < documents.size(); document++) {
        times.put(document, view.sees(document) ? query.timesIn(documents.get(document).text) : 0);
        if (times.get(document) > 0) matching++;
      }
      for (int document = 0; document < documents.size(); document++) {
        int often = times.get(document);
        int length = documents.get(document).text.count;
        int score = often == 0 ? NO_SCORE : query.scoreFor(often, length, view.count, matching);
        scores.put(cell(part, document), score);
      }
    }

    private void scoreJoined(int documentCount, Query query, int part) {
      for (int document = 0; document < documentCount; document++) {
        int one = scores.get(cell(query.first, document));
        int other = scores.get(cell(query.second, document));
        scores.put(cell(part, document), query.joinScores(one, other));
      }
    }

    private static int cell(int query, int document) {
      return query * MOST_DOCUMENTS + document;
    }

    private void orderHits(ArrayList<Document> documents, int bound) {
      found = 0;
      for (int document = 0; document < documents.size(); document++) {
        if (scoreOf(document) == NO_SCORE) continue;
        int clicks = documents.get(document).clicks;
        ranks.put(document, scoreOf(document) + (clicks < bound ? clicks : bound));
        putInOrder(document);
      }
    }

    private void putInOrder(int document) {
      int at = found;
      while (at > 0 && ranks.get(order.get(at - 1)) < ranks.get(document)) {
        order.put(at, order.get(at - 1));
        at--;
      }
      order.put(at, document);
      found++;
    }
  }
}
