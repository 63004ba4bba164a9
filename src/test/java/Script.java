import java.lang.reflect.Method;
import java.util.ArrayList;
import java.util.List;
import java.util.NoSuchElementException;

/**
 * Calls in a row, written as text: "addWord 7; addWord 60 ! Argument; 3x text 1 2; close = 3".
 *
 * <p>"= answer" and "! exception" tell what is due, "5/3" a quotient, "#255" a sign by its number. "text w.." opens a
 * text without a whole, adds its words and closes it; "part tag whole w.." tells the tag and the whole, too.
 */
final class Script {
  private final List<Call> calls = new ArrayList<>();

  static final class Call {
    final String text;
    final String name;
    final Object[] arguments;
    final String due;

    Call(String name, String[] arguments, String due) {
      Method method = Calls.method(name);
      this.text = name + List.of(arguments);
      this.name = name;
      this.arguments = arguments(method.getParameterTypes(), arguments);
      this.due = due == null ? null : due(method.getReturnType(), due);
    }

    boolean isRefused() {
      return due != null && due.startsWith("throws");
    }

    private static Object[] arguments(Class<?>[] types, String[] written) {
      if (types.length != written.length) throw new AssertionError("arguments: " + List.of(written));
      Object[] arguments = new Object[types.length];
      for (int i = 0; i < types.length; i++) {
        arguments[i] = types[i] == char.class ? (Object) sign(written[i]) : (Object) number(written[i]);
      }
      return arguments;
    }

    private static char sign(String written) {
      return written.length() == 1 ? written.charAt(0) : (char) Integer.parseInt(written.substring(1));
    }

    private static int number(String written) {
      if (written.equals("MIN")) return Integer.MIN_VALUE;
      return written.equals("MAX") ? Integer.MAX_VALUE : Integer.parseInt(written);
    }

    private static String due(Class<?> type, String written) {
      if (written.startsWith("!")) return "throws " + exception(written.substring(2)).getName();
      String answer = written.substring(2);
      if (type != float.class && type != double.class) return answer;
      String[] quotient = answer.split("/");
      int dividend = Integer.parseInt(quotient[0]);
      int divisor = Integer.parseInt(quotient[1]);
      if (type == float.class) return String.valueOf((float) dividend / (float) divisor);
      return String.valueOf((double) dividend / (double) divisor);
    }

    private static Class<?> exception(String written) {
      switch (written) {
        case "Argument":
          return IllegalArgumentException.class;
        case "Index":
          return IndexOutOfBoundsException.class;
        case "State":
          return IllegalStateException.class;
        case "Element":
          return NoSuchElementException.class;
        case "Arithmetic":
          return ArithmeticException.class;
        default:
          throw new AssertionError("no such exception: " + written);
      }
    }
  }

  Script(String written) {
    for (String line : written.split(";")) readLine(line.trim());
  }

  private void readLine(String line) {
    String[] parts = line.split(" (?=[=!])");
    String due = parts.length > 1 ? parts[1] : null;
    String[] words = parts[0].split(" ");
    if (!words[0].matches("\\d+x")) {
      read(words, due);
      return;
    }
    int times = Integer.parseInt(words[0].substring(0, words[0].length() - 1));
    for (int i = 0; i < times; i++) read(from(words, 1), due);
  }

  private void read(String[] words, String due) {
    if (words[0].equals("text")) readText("0", "-1", from(words, 1), due);
    else if (words[0].equals("part")) readText(words[1], words[2], from(words, 3), due);
    else calls.add(new Call(words[0], from(words, 1), due));
  }

  private void readText(String tag, String whole, String[] words, String due) {
    calls.add(new Call("open", new String[] {tag, whole}, null));
    for (String word : words) calls.add(new Call("addWord", new String[] {word}, null));
    calls.add(new Call("close", new String[0], due));
  }

  private static String[] from(String[] words, int first) {
    return java.util.Arrays.copyOfRange(words, first, words.length);
  }

  /** The first call whose answer is not the due one; null if there is none. A call without one must not throw. */
  String faultOf(Object object) {
    Calls made = new Calls(object);
    for (Call call : calls) {
      String answer = made.answer(call.name, call.arguments);
      boolean isRight = call.due == null ? !answer.startsWith("throws") : answer.equals(call.due);
      if (!isRight) return call.text + " answered " + answer + ", due is " + call.due;
    }
    return null;
  }

  /** The first refused call behind which an index is another one than without that call; null if there is none. */
  String traceOfRefusal() {
    for (int at = 0; at < calls.size(); at++) {
      // Nothing can be asked behind the last call.
      if (!calls.get(at).isRefused() || at + 1 == Calls.MOST) continue;
      String difference = Probe.difference(Probe.tell(after(at)), Probe.tell(after(at + 1)));
      if (difference != null) return "behind " + calls.get(at).text + ": " + difference;
    }
    return null;
  }

  private Calls after(int count) {
    Calls made = new Calls(new TallowIndex());
    for (Call call : calls.subList(0, count)) made.answer(call.name, call.arguments);
    return made;
  }
}
