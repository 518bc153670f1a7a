import java.lang.reflect.InvocationTargetException;
import java.lang.reflect.Method;
import java.lang.reflect.Modifier;
import java.util.ArrayList;
import java.util.Comparator;
import java.util.List;
import java.util.Random;

/** No call ever throws, for any arguments in any state: every method, by numbers at and past all bounds, by fixed seeds. */
public final class AnyArgumentsTest {
  private static final int RUNS = 2000, CALLS = 460;
  private static final int MIN = Integer.MIN_VALUE, MAX = Integer.MAX_VALUE;
  private static final int[] NUMBERS = {
    0, 0, 0, 0, 1, 1, 1, 1, 2, 2, 2, 3, 3, 4, 5, 6, 7, 8, 9, 10, 11, 12, 13, 14, 15, 17, 18, 19, 20, 21, 22, 23, 24, 30, 31, 39, 40, 41,
    60, 61, 99, 100, 199, 200, 319, 320, 321, 999, 1000, 256, 65536, 1 << 30, MAX - 40, MAX - 9, MAX - 1, MAX,
    -1, -2, -10, -41, -256, -65536, MIN, MIN + 1, MIN + 10};
  private static final String[] TEXTS = {
    "law 1;one plain 20 99;one abbot 40 199;one faster 99 120;one walker 21 30;frontier 2 9;load 5;",
    "law 2;one twin 30 60;one twin 40 1;one plain 98 199;frontier 0 1;frontier 4 9;frontier 2 5;load 1 30 5 3 8;",
    "one abbot 60 199;frontier 0 1;", "", "one plain 20 9;one plain 30 30;law", "load 1 2 3 4 5 6;", "!", "frontier 0 1;frontier 4 2;"};

  public static void main(String[] args) throws Exception {
    List<Method> calls = new ArrayList<>();
    for (Method m : WeighedSelf.class.getDeclaredMethods()) if (Modifier.isPublic(m.getModifiers())) calls.add(m);
    calls.sort(Comparator.comparing(Method::getName));
    Given.sentence("LANGUAGE.md, rule 7");
    for (int seed = 0; seed < RUNS; seed++) run(calls, new Random(seed));
    Given.finish("no call throws");
  }

  private static void run(List<Method> calls, Random random) throws Exception {
    WeighedSelf x = new WeighedSelf();
    if (random.nextInt(6) > 0) Given.told(x, TEXTS[random.nextInt(TEXTS.length)]);
    for (int i = 0; i < CALLS; i++) {
      Method call = calls.get(random.nextInt(calls.size()));
      if (call.getName().equals("text") && random.nextInt(4) > 0) continue;
      Object[] with = new Object[call.getParameterCount()];
      for (int j = 0; j < with.length; j++) with[j] = call.getParameterTypes()[j] == long.class ? eight(random) : (Object) number(random);
      try {
        call.invoke(x, with);
      } catch (InvocationTargetException e) {
        Given.fail(call.getName() + java.util.Arrays.toString(with) + " threw " + e.getCause());
        return;
      }
    }
  }

  private static int number(Random random) {
    return random.nextInt(3) == 0 ? NUMBERS[random.nextInt(NUMBERS.length)] : NUMBERS[random.nextInt(30)];
  }

  private static Long eight(Random random) {
    String text = TEXTS[random.nextInt(TEXTS.length)] + Given.blanks(8);
    int from = random.nextInt(text.length() - 7);
    return random.nextInt(8) == 0 ? random.nextLong() : Given.eight(text.substring(from, from + 8));
  }
}
