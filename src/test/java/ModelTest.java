import java.lang.reflect.Method;
import java.util.ArrayList;
import java.util.Arrays;
import java.util.List;
import java.util.Random;

/**
 * Runs of 512 calls with arguments by lot (always the same ones), each answer held against the
 * Model's; wrong arguments among them. What a call throws ends the test.
 */
public final class ModelTest {
  private static final int RUNS = 600, CALLS = 512, MOST_TOLD = 20;
  private static final long[] ODD = {Integer.MIN_VALUE, Integer.MAX_VALUE, -1000, 1000, -100, -9, 222};

  /** A call by its name, how often it comes, and from where to where each argument goes. */
  private record Call(String name, int weight, int... bounds) {}

  private static final Call[] CALLS_OF_FACE = {
    new Call("learner", 4, 0, 5, 0, 40), new Call("learnerOf", 2, 0, 3, 0, 2), new Call("pair", 1, 2, 9, 2, 9),
    new Call("pairOf", 1, 0, 35, 0, 3), new Call("tied", 1, 0, 35), new Call("head", 8, 0, 3, 0, 35, 0, 4),
    new Call("firm", 8, 0, 3, 0, 35, 0, 100), new Call("rights", 4, 0, 3, 0, 35, 0, 9), new Call("set", 2, 0, 2, 0, 100),
    new Call("day", 1), new Call("feel", 3, 0, 3, 0, 35, 1, 9), new Call("would", 10, 0, 3, 0, 35, 1, 9, 0, 3),
    new Call("ask", 16, 0, 3, 0, 35, 1, 9), new Call("tell", 4, 0, 3, 0, 35), new Call("nights", 3, 0, 4),
    new Call("nights", 1, 0, 30), new Call("card", 4, 0, 3), new Call("known", 3, 0, 3, 1, 9),
    new Call("friday", 3, 0, 3, 0, 30, 1, 9), new Call("odds", 3, 1, 9, 0, 1), new Call("best", 2, 0, 3, 1, 2, 0, 9, 0, 1),
    new Call("till", 3, 0, 3, 0, 35, 0, 100), new Call("hardest", 3, 1, 9), new Call("draws", 4, 0, 3, 1, 9, 0, 1),
    new Call("give", 3, 0, 3), new Call("item", 3, 0, 12, 0, 2), new Call("seed", 1, -9, 9), new Call("draw", 4, 0, 3, 1, 9),
    new Call("prove", 3, 0, 3), new Call("row", 4, 0, 12, 0, 2), new Call("alterRow", 1, 0, 12, 0, 2, -9, 81),
    new Call("judge", 4, 0, 3), new Call("firms", 3, 0, 3, 0, 12, 0, 3, 0, 35, 0, 12), new Call("sheet", 3, 0, 3, -1, 3, 0, 40),
    new Call("put", 4, 0, 3, 0, 39, -200, 200), new Call("number", 4, 0, 3, 0, 3, 0, 39), new Call("shelf", 4, 0, 3, 0, 2, 0, 3),
    new Call("taken", 3, 0, 3, 0, 5), new Call("taken", 2, 0, 3, 10, 13), new Call("act", 6, 0, 3, 0, 3, -99, 99),
    new Call("trace", 3, 0, 11), new Call("many", 3, 0, 4), new Call("keep", 1), new Call("again", 1),
    new Call("feed", 1, -99, 99, 1, 8), new Call("lesson", 1)
  };

  private static final Random LOT = new Random(78);
  private static int wrong = 0;

  private SevenEights program;
  private Model model;
  private final List<String> calls = new ArrayList<>();

  public static void main(String[] args) throws Exception {
    for (int run = 0; run < RUNS && wrong < MOST_TOLD; run++) new ModelTest().run();
    System.out.println(wrong == 0 ? "all answers are the model's" : wrong + " answers are not the model's");
    if (wrong != 0) System.exit(1);
  }

  private void run() throws Exception {
    program = new SevenEights();
    model = new Model();
    // In some runs few arguments are wrong, so that much is done; in others many.
    double odd = LOT.nextInt(3) == 0 ? 0.15 : 0.01;
    int learners = LOT.nextInt(5);
    for (int i = 0; i < learners; i++) hold("learner", (long) LOT.nextInt(6), (long) LOT.nextInt(41));
    while (calls.size() < CALLS - 60 && wrong < MOST_TOLD) {
      if (LOT.nextInt(25) == 0) {
        feedText(text());
      } else {
        Call call = byWeight();
        hold(call.name(), arguments(call, odd));
      }
    }
    for (int what = 0; what < 5; what++) hold("many", (long) what);
    for (int learner = 0; learner < 4; learner++) hold("learnerOf", (long) learner, 2L);
  }

  private static Call byWeight() {
    int all = Arrays.stream(CALLS_OF_FACE).mapToInt(Call::weight).sum();
    int at = LOT.nextInt(all);
    for (Call call : CALLS_OF_FACE) {
      at -= call.weight();
      if (at < 0) return call;
    }
    throw new IllegalStateException();
  }

  private static Long[] arguments(Call call, double odd) {
    Long[] all = new Long[call.bounds().length / 2];
    for (int i = 0; i < all.length; i++) {
      int least = call.bounds()[2 * i], most = call.bounds()[2 * i + 1];
      all[i] = least + (long) LOT.nextInt(most - least + 1);
      if (LOT.nextDouble() < odd) all[i] = LOT.nextBoolean() ? (LOT.nextBoolean() ? least - 1L : most + 1L) : ODD[LOT.nextInt(ODD.length)];
    }
    boolean isAnyNumber = call.name().equals("act") || call.name().equals("put") || call.name().equals("seed");
    if (isAnyNumber && LOT.nextInt(4) == 0) all[all.length - 1] = (long) LOT.nextInt();
    if (call.name().equals("feed")) all[0] = LOT.nextLong();
    return all;
  }

  private static String text() {
    StringBuilder text = new StringBuilder();
    int items = LOT.nextInt(5) == 0 ? 11 + LOT.nextInt(3) : LOT.nextInt(7);
    for (int i = 0; i < items; i++) {
      int a = 2 + LOT.nextInt(8), b = 2 + LOT.nextInt(8), t = 1 + LOT.nextInt(9);
      switch (LOT.nextInt(4)) {
        case 0 -> text.append("tell ").append(a).append(' ').append(b).append(';');
        case 1 -> text.append("rest ").append(1 + LOT.nextInt(3)).append(';');
        default -> text.append("ask ").append(a).append(' ').append(b).append(" in ").append(t).append(';');
      }
    }
    if (LOT.nextInt(2) == 0) spoil(text);
    return text.substring(0, Math.min(200, text.length()));
  }

  private static void spoil(StringBuilder text) {
    String signs = " ;01279aknx\u00e9A";
    int times = 1 + LOT.nextInt(3);
    for (int i = 0; i < times; i++) {
      int at = LOT.nextInt(text.length() + 1);
      switch (LOT.nextInt(4)) {
        case 0 -> text.insert(at, signs.charAt(LOT.nextInt(signs.length())));
        case 1 -> text.insert(at, ' ');
        case 2 -> text.setLength(at);
        default -> { if (at < text.length()) text.deleteCharAt(at); }
      }
    }
  }

  private void feedText(String text) throws Exception {
    if (LOT.nextInt(4) != 0) hold("lesson");
    for (int i = 0; i < text.length(); i += 8) {
      int n = Math.min(8, text.length() - i);
      long eight = 0;
      for (int k = 0; k < n; k++) eight |= (long) text.charAt(i + k) << 8 * k;
      hold("feed", eight, (long) n);
    }
    hold("lesson");
  }

  private void hold(String name, Long... arguments) throws Exception {
    calls.add(name + Arrays.toString(arguments));
    long got = answer(SevenEights.class, program, name, arguments);
    long want = answer(Model.class, model, name, arguments);
    if (got == want) return;
    wrong++;
    System.out.println("call " + calls.size() + ", " + calls.get(calls.size() - 1) + " answered " + got + ", the model " + want);
    if (wrong == 1) System.out.println("behind " + calls);
  }

  private static long answer(Class<?> face, Object it, String name, Long[] arguments) throws Exception {
    for (Method method : face.getDeclaredMethods()) {
      if (!method.getName().equals(name) || java.lang.reflect.Modifier.isPrivate(method.getModifiers())) continue;
      Object[] given = new Object[arguments.length];
      for (int i = 0; i < given.length; i++) {
        given[i] = method.getParameterTypes()[i] == long.class ? (Object) arguments[i] : (Object) arguments[i].intValue();
      }
      return ((Number) method.invoke(it, given)).longValue();
    }
    throw new IllegalStateException(name);
  }
}
