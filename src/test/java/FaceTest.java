import java.lang.reflect.Constructor;
import java.lang.reflect.Field;
import java.lang.reflect.Method;
import java.lang.reflect.Modifier;
import java.util.ArrayList;
import java.util.Arrays;
import java.util.Collections;
import java.util.List;

/** The face is the document's, and nothing beside it can be reached from outside (LANGUAGE.md, rules 1, 2 and 5). */
public final class FaceTest {
  private static final String[] FACE = {
    "int addStep(char, int, int) IllegalArgumentException IllegalStateException",
    "int dropSteps()",
    "int open(int, int) IllegalArgumentException IndexOutOfBoundsException IllegalStateException",
    "int addWord(int) IllegalArgumentException IllegalStateException",
    "int close() IllegalStateException",
    "char remove(int) IndexOutOfBoundsException IllegalStateException",
    "char state(int) IndexOutOfBoundsException",
    "int length(int) IndexOutOfBoundsException",
    "int standing(int, int, int) IndexOutOfBoundsException",
    "int write()",
    "int segments()",
    "int size(int) IndexOutOfBoundsException",
    "int merge(int) IndexOutOfBoundsException",
    "int commit()",
    "int crash()",
    "int follow() IllegalStateException",
    "boolean isOnReplica(int) IndexOutOfBoundsException",
    "int openView() IllegalStateException",
    "int closeView(int) IndexOutOfBoundsException",
    "int seen(int) IndexOutOfBoundsException",
    "int ask(char, int, int, int, int) IllegalArgumentException IllegalStateException",
    "int join(char, int, int) IllegalArgumentException IndexOutOfBoundsException IllegalStateException",
    "int hits(int, int) IndexOutOfBoundsException",
    "int hit(int, int, int) IndexOutOfBoundsException NoSuchElementException",
    "long score(int, int, int) IndexOutOfBoundsException NoSuchElementException",
    "long scoreAlone(int, int, int) IndexOutOfBoundsException",
    "int tagged(int, int, int) IndexOutOfBoundsException IllegalArgumentException",
    "int firstTagged(int, int, int) IndexOutOfBoundsException IllegalArgumentException NoSuchElementException",
    "int wholes(int, int) IndexOutOfBoundsException",
    "long wholeScore(int, int, int) IndexOutOfBoundsException NoSuchElementException",
    "int marked(int, int, int) IndexOutOfBoundsException NoSuchElementException",
    "int click(int) IndexOutOfBoundsException",
    "int setBound(int) IllegalArgumentException",
    "int turned(int, int) IndexOutOfBoundsException",
    "float removedShare() ArithmeticException",
    "double meanLength(int) IndexOutOfBoundsException ArithmeticException",
  };

  public static void main(String[] args) {
    Check check = new Check("FaceTest");
    Class<?> face = TallowIndex.class;
    int modifiers = face.getModifiers();
    check.due("the class is public", true, Modifier.isPublic(modifiers));
    check.due("the class is final", true, Modifier.isFinal(modifiers));
    methodsAreTheFace(check, face);
    fieldsAndConstructorsAreHidden(check, face);
    innerClassesAreHidden(check, face);
    check.end();
  }

  private static void methodsAreTheFace(Check check, Class<?> face) {
    List<String> got = new ArrayList<>();
    List<String> names = new ArrayList<>();
    for (Method method : face.getDeclaredMethods()) {
      if (Modifier.isPrivate(method.getModifiers())) continue;
      got.add(line(method));
      names.add(method.getName());
    }
    List<String> want = new ArrayList<>(Arrays.asList(FACE));
    Collections.sort(got);
    Collections.sort(want);
    check.tell("the methods", got.equals(want), "are " + got);
    for (Method method : face.getDeclaredMethods()) {
      if (!Modifier.isPrivate(method.getModifiers())) continue;
      check.due(method.getName() + " is private with a public name", false, names.contains(method.getName()));
    }
  }

  private static String line(Method method) {
    StringBuilder line = new StringBuilder();
    line.append(method.getReturnType().getSimpleName()).append(' ').append(method.getName()).append('(');
    Class<?>[] parameters = method.getParameterTypes();
    for (int i = 0; i < parameters.length; i++) line.append(i == 0 ? "" : ", ").append(parameters[i].getSimpleName());
    line.append(')');
    for (Class<?> thrown : method.getExceptionTypes()) line.append(' ').append(thrown.getSimpleName());
    return line.toString();
  }

  private static void fieldsAndConstructorsAreHidden(Check check, Class<?> face) {
    for (Field field : face.getDeclaredFields()) {
      int modifiers = field.getModifiers();
      check.due(field.getName() + " is private", true, Modifier.isPrivate(modifiers));
      if (!Modifier.isStatic(modifiers)) continue;
      check.due(field.getName() + " is static, then final", true, Modifier.isFinal(modifiers));
    }
    Constructor<?>[] constructors = face.getDeclaredConstructors();
    check.due("the number of constructors", 1, constructors.length);
    check.due("the constructor is public", true, Modifier.isPublic(constructors[0].getModifiers()));
    check.due("the constructor's parameters", 0, constructors[0].getParameterCount());
  }

  private static void innerClassesAreHidden(Check check, Class<?> face) {
    for (Class<?> inner : face.getDeclaredClasses()) {
      int modifiers = inner.getModifiers();
      boolean isOpen = Modifier.isPublic(modifiers) || Modifier.isProtected(modifiers);
      check.due(inner.getSimpleName() + " is public or protected", false, isOpen);
      check.due(inner.getSimpleName() + " is static", true, Modifier.isStatic(modifiers));
    }
    check.due("at most twelve classes inside", true, face.getDeclaredClasses().length <= 12);
  }
}
