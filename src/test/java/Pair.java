import java.lang.reflect.Method;
import java.util.ArrayList;
import java.util.List;
import java.util.Map;
import java.util.TreeMap;

/** One new object and a Model of it: each call is made on both and its answers are compared, 512 calls at most. */
final class Pair {
  static final int MOST_CALLS = 512;
  private static final Map<String, Method> FACE = new TreeMap<>();
  private static final Map<String, Method> MODEL = new TreeMap<>();

  static {
    for (Method method : SoldHouse.class.getDeclaredMethods()) {
      if (java.lang.reflect.Modifier.isPublic(method.getModifiers())) FACE.put(method.getName(), method);
    }
    for (Method method : FACE.values()) MODEL.put(method.getName(), twin(method));
  }

  final Model m = new Model();
  private final SoldHouse x = new SoldHouse();
  private final Checks c;
  private final List<String> rows = new ArrayList<>();
  private boolean wrong;

  Pair(Checks c) {
    this.c = c;
  }

  private static Method twin(Method method) {
    try {
      Class<?>[] types = method.getName().equals("feed") ? new Class<?>[] {int[].class} : method.getParameterTypes();
      return Model.class.getDeclaredMethod(method.getName(), types);
    } catch (NoSuchMethodException none) {
      throw new IllegalStateException("the Model has no " + method, none);
    }
  }

  static Iterable<String> names() {
    return FACE.keySet();
  }

  /** There are no calls left, or an answer was wrong. */
  boolean isOver() {
    return wrong || rows.size() >= MOST_CALLS;
  }

  int calls() {
    return rows.size();
  }

  /** The answer of the Model; a boolean counts 1 or 0. Behind the last call nothing is called. */
  int call(String name, Object... given) {
    if (isOver()) return -1;
    int got = answer(FACE.get(name), x, given);
    int due = answer(MODEL.get(name), m, name.equals("feed") ? new Object[] {fiveOf(given)} : given);
    String row = name + java.util.Arrays.toString(given).replace('[', '(').replace(']', ')');
    rows.add(row + " = " + got);
    wrong = got != due;
    if (wrong) tellRun();
    c.due(row, got, due);
    return due;
  }

  private static int[] fiveOf(Object[] given) {
    int[] five = new int[5];
    for (int i = 0; i < 5; i++) five[i] = (Integer) given[i];
    return five;
  }

  private static int answer(Method method, Object on, Object[] given) {
    try {
      Object answer = method.invoke(on, given);
      return answer instanceof Boolean is ? (is ? 1 : 0) : (Integer) answer;
    } catch (ReflectiveOperationException thrown) {
      throw new IllegalStateException(method + " threw", thrown);
    }
  }

  /** The whole run, the last row being the wrong one. */
  private void tellRun() {
    for (String row : rows) System.out.println("  " + row);
  }
}
