import java.lang.reflect.InvocationTargetException;
import java.lang.reflect.Method;
import java.util.ArrayList;
import java.util.List;
import java.util.Map;
import java.util.TreeMap;

/** Calls an object with the face by the calls' names, and keeps count of what is in the object by its answers. */
final class Calls {
  /** Nothing is promised behind the 512th call. */
  static final int MOST = 512;
  private static final Map<String, Method> FACE = face();

  final List<Integer> views = new ArrayList<>();
  boolean isTextOpen;
  int words;
  int documents;
  int queries;
  int commits;
  private final Object object;
  private int made;

  Calls(Object object) {
    this.object = object;
  }

  private static Map<String, Method> face() {
    Map<String, Method> face = new TreeMap<>();
    for (Method method : TallowIndex.class.getMethods()) {
      if (method.getDeclaringClass() == TallowIndex.class) face.put(method.getName(), method);
    }
    return face;
  }

  static Method method(String name) {
    Method method = FACE.get(name);
    if (method == null) throw new AssertionError("no such call: " + name);
    return method;
  }

  /** What the call answers, or "throws " with the exception's name. */
  String answer(String name, Object... arguments) {
    if (made == MOST) throw new AssertionError("more than " + MOST + " calls");
    made++;
    String answer = made(name, arguments);
    if (!answer.startsWith("throws")) keepCount(name, arguments, answer);
    return answer;
  }

  private String made(String name, Object... arguments) {
    try {
      Method method = object.getClass().getDeclaredMethod(name, method(name).getParameterTypes());
      return String.valueOf(method.invoke(object, arguments));
    } catch (InvocationTargetException e) {
      return "throws " + Check.thrown(e.getCause());
    } catch (ReflectiveOperationException e) {
      throw new AssertionError(e);
    }
  }

  private void keepCount(String name, Object[] arguments, String answer) {
    if (name.equals("open")) isTextOpen = true;
    if (name.equals("open")) words = 0;
    if (name.equals("addWord")) words++;
    if (name.equals("close") || name.equals("crash")) isTextOpen = false;
    if (name.equals("close")) documents++;
    if (name.equals("openView")) views.add(Integer.parseInt(answer));
    if (name.equals("closeView")) views.remove(arguments[0]);
    if (name.equals("crash")) views.clear();
    if (name.equals("ask") || name.equals("join")) queries++;
    if (name.equals("commit")) commits++;
  }
}
