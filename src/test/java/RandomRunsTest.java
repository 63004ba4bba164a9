import java.util.ArrayList;
import java.util.List;
import java.util.Random;

/** Runs of 512 calls, the same ones on each machine, on the class and on the model: each answer must be the same. */
public final class RandomRunsTest {
  private static final int RUNS = 400;
  private static final int CALLS_THAT_FILL = 200;

  /** Name, what each argument is, and how often the call comes while a run fills the index, and later on. */
  private static final String[] CALLS_OF_THE_FACE = {
    "addStep sww 30 2", "dropSteps - 2 1", "open th 2 6", "addWord w 2 12", "close - 1 6",
    "remove d 6 6", "state d 2 3", "length d 4 2", "standing dpw 8 3",
    "write - 16 6", "segments - 2 2", "size g 3 3", "merge g 2 5", "commit - 4 3", "crash - 1 1",
    "follow - 2 3", "isOnReplica d 2 3", "openView - 1 10", "closeView v 1 3", "seen v 1 4",
    "ask awwxy 30 10", "join jqq 6 14", "hits vq 1 10", "hit vqi 1 20", "score vqi 1 20", "scoreAlone vqd 1 20",
    "tagged vqt 1 10", "firstTagged vqt 1 12", "wholes vq 1 12", "wholeScore vqd 1 24", "marked qdi 5 20",
    "click d 20 12", "setBound b 2 4", "turned vq 1 16", "removedShare - 2 4", "meanLength v 1 6",
  };
  private static final int[] WILD = {-1, -2, 60, 61, 100, 1000, -1000, Integer.MIN_VALUE, Integer.MAX_VALUE};

  private final Random random;
  private final int words;
  private final Calls index = new Calls(new TallowIndex());
  private final Calls model = new Calls(new Model());
  private final List<String> told = new ArrayList<>();

  private RandomRunsTest(int seed) {
    random = new Random(seed);
    words = 2 + seed % 5;
  }

  public static void main(String[] args) {
    Check check = new Check("RandomRunsTest");
    for (int seed = 0; seed < RUNS; seed++) {
      String difference = new RandomRunsTest(seed).run();
      check.tell("run " + seed, difference == null, difference);
    }
    check.end();
  }

  private String run() {
    for (int i = 0; i < Calls.MOST; i++) {
      String[] call = pick(i < CALLS_THAT_FILL);
      Object[] arguments = arguments(call[1]);
      String got = index.answer(call[0], arguments);
      String want = model.answer(call[0], arguments);
      told.add(call[0] + List.of(arguments) + " " + got);
      if (!got.equals(want)) return "differs, due is " + want + ", after " + told;
    }
    return null;
  }

  private String[] pick(boolean isFilling) {
    if (isFilling && random.nextInt(4) > 0) return pickOfText().split(" ");
    int all = 0;
    for (String call : CALLS_OF_THE_FACE) all += often(call, isFilling);
    int at = random.nextInt(all);
    for (String call : CALLS_OF_THE_FACE) {
      at -= often(call, isFilling);
      if (at < 0) return call.split(" ");
    }
    throw new AssertionError();
  }

  private String pickOfText() {
    if (!model.isTextOpen) return "open th";
    return random.nextInt(6) == 0 ? "close -" : "addWord w";
  }

  private static int often(String call, boolean isFilling) {
    return Integer.parseInt(call.split(" ")[isFilling ? 2 : 3]);
  }

  private Object[] arguments(String kinds) {
    if (kinds.equals("-")) return new Object[0];
    Object[] arguments = new Object[kinds.length()];
    for (int i = 0; i < arguments.length; i++) arguments[i] = argument(kinds.charAt(i));
    return arguments;
  }

  private Object argument(char kind) {
    if (kind == 's') return letter("lmscyyyc");
    if (kind == 'a') return letter("wpnnp");
    if (kind == 'j') return letter("aoxio");
    if (random.nextInt(60) == 0) return WILD[random.nextInt(WILD.length)];
    if (kind == 'w') return random.nextInt(words) + (random.nextInt(4) == 0 ? 30 : 0);
    if (kind == 't') return random.nextInt(3) * 5 / 2;
    if (kind == 'h') return random.nextInt(model.documents + 1) - 1;
    if (kind == 'd') return random.nextInt(model.documents + 1);
    if (kind == 'p') return random.nextInt(15) - 2;
    if (kind == 'g') return random.nextInt(5);
    if (kind == 'v') return model.views.isEmpty() || random.nextInt(20) == 0 ? random.nextInt(9) : oneOf(model.views);
    if (kind == 'q') return random.nextInt(model.queries + 1);
    if (kind == 'i') return random.nextInt(6);
    if (kind == 'x') return random.nextInt(10);
    if (kind == 'y') return 1 + random.nextInt(9);
    if (kind == 'b') return random.nextInt(2) * random.nextInt(1000) + random.nextInt(10);
    throw new AssertionError(kind);
  }

  private int oneOf(List<Integer> numbers) {
    return numbers.get(random.nextInt(numbers.size()));
  }

  private char letter(String usual) {
    return random.nextInt(60) == 0 ? (char) random.nextInt(256) : usual.charAt(random.nextInt(usual.length()));
  }
}
