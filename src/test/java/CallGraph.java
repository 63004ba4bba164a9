import java.util.ArrayList;
import java.util.List;
import java.util.Map;
import java.util.TreeMap;
import java.util.TreeSet;

/** Which methods call which ones, by their names with their classes. */
final class CallGraph {
  private final Map<String, TreeSet<String>> callees = new TreeMap<>();

  void add(String caller, String called) {
    callees.computeIfAbsent(caller, key -> new TreeSet<>()).add(called);
  }

  /** The longest way of calls from one to the next; of a recursion, the way up to the call that closes the ring. */
  List<String> deepest() {
    List<String> deepest = List.of();
    for (String caller : callees.keySet()) {
      List<String> way = deepestFrom(caller, new ArrayList<>());
      if (way.size() > deepest.size()) deepest = way;
    }
    return deepest;
  }

  /** A method that can come to call itself again; null if there is none. */
  String recursive() {
    for (String caller : callees.keySet()) {
      List<String> way = deepestFrom(caller, new ArrayList<>());
      if (way.indexOf(way.get(way.size() - 1)) < way.size() - 1) return way.get(way.size() - 1);
    }
    return null;
  }

  private List<String> deepestFrom(String method, List<String> before) {
    List<String> way = new ArrayList<>(before);
    way.add(method);
    if (before.contains(method)) return way;
    List<String> deepest = way;
    for (String called : callees.getOrDefault(method, new TreeSet<>())) {
      List<String> on = deepestFrom(called, way);
      boolean isRing = on.indexOf(on.get(on.size() - 1)) < on.size() - 1;
      if (isRing) return on;
      if (on.size() > deepest.size()) deepest = on;
    }
    return deepest;
  }
}
