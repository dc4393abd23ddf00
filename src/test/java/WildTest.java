import java.lang.reflect.InvocationTargetException;
import java.lang.reflect.Method;
import java.lang.reflect.Modifier;
import java.util.Arrays;
import java.util.Random;
import java.util.function.Supplier;

/** No call ever throws, whatever its arguments and whatever was done ahead of it (rule 7 of LANGUAGE.md). */
public final class WildTest {
  private static final Checks c = new Checks("WildTest");
  private static final int[] WILD = {Integer.MIN_VALUE, Integer.MIN_VALUE + 1, -1000, -256, -9, -2, -1, 0, 1, 2, 3, 4, 5, 6, 7, 8, 9, 10, 11, 12,
      13, 29, 30, 31, 32, 33, 59, 60, 61, 63, 64, 99, 100, 127, 128, 255, 256, 257, 999, 1000, 1001, 1599, 1600, 1601, 65535, 65536,
      100000, 1 << 30, Integer.MAX_VALUE - 1, Integer.MAX_VALUE};
  private static final String MOST = "room a creaks 9;room b;room c;room d;room e;room f;room g;room h creaks 9;"
      + "door a b;door a c;door a d;door a e;door a f;door a g;door b c;door c d;door d e;door e f;door f g;door h a;"
      + "thing p in h was a ours us 50;thing q in a;thing r in b was h them 50;thing s in c ours;thing t in d was b;thing u in e;"
      + "sure not(us*9999*9999/them%day)and(far<told)or 1;draw 999;";

  public static void main(String[] args) throws IllegalAccessException {
    for (Method method : SoldHouse.class.getDeclaredMethods()) {
      if (Modifier.isPublic(method.getModifiers())) {
        each(method, SoldHouse::new);
        each(method, Twins::full);
        each(method, () -> Checks.of(MOST));
      }
    }
    for (int seed = 0; seed < 300; seed++) mixed(new Random(seed));
    c.finish();
  }

  /** Each argument in turn takes all of WILD, with the others drawn. */
  private static void each(Method method, Supplier<SoldHouse> make) throws IllegalAccessException {
    Random random = new Random(method.getName().hashCode());
    for (int which = 0; which < Math.max(1, method.getParameterCount()); which++) {
      SoldHouse x = make.get();
      for (int wild : WILD) {
        for (int i = 0; i < 5; i++) call(x, method, which, wild, random);
        x = random.nextInt(4) == 0 ? make.get() : x;
      }
    }
  }

  private static void mixed(Random random) throws IllegalAccessException {
    Method[] all = SoldHouse.class.getMethods();
    SoldHouse x = random.nextBoolean() ? Twins.full() : Checks.of(MOST);
    for (int i = 0; i < 500; i++) {
      Method method = all[random.nextInt(all.length)];
      if (method.getDeclaringClass() == SoldHouse.class) call(x, method, -1, 0, random);
    }
  }

  private static void call(SoldHouse x, Method method, int which, int wild, Random random) throws IllegalAccessException {
    Object[] given = new Object[method.getParameterCount()];
    for (int i = 0; i < given.length; i++) {
      int number = i == which ? wild : random.nextInt(3) == 0 ? WILD[random.nextInt(WILD.length)] : random.nextInt(9);
      given[i] = method.getParameterTypes()[i] == boolean.class ? (Object) (number % 2 == 0) : (Object) number;
    }
    try {
      method.invoke(x, given);
      c.due(method.getName(), 0, 0);
    } catch (InvocationTargetException thrown) {
      c.due(method.getName() + Arrays.toString(given) + " threw " + thrown.getCause(), 1, 0);
    }
  }
}
