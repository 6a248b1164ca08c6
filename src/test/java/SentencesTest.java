import java.lang.reflect.Method;
import java.util.List;
import java.util.TreeSet;

/** Whether each promise has a test for the sentences in it that name a boundary. */
public final class SentencesTest {
  private static final List<Class<?>> TESTS = List.of(ArgumentBoundariesTest.class, HeadBoundariesTest.class,
    TextBoundariesTest.class, LessonBoundariesTest.class, HostBoundariesTest.class, RefusedCallsTest.class);

  public static void main(String[] args) {
    TreeSet<Integer> missing = new TreeSet<>();
    for (int promise = 1; promise <= 45; promise++) missing.add(promise);
    for (Class<?> tests : TESTS) {
      for (Method test : tests.getDeclaredMethods()) {
        Sentence sentence = test.getAnnotation(Sentence.class);
        if (sentence == null) continue;
        for (int promise : sentence.promises()) missing.remove(promise);
      }
    }
    System.out.println(missing.isEmpty() ? "each promise has its boundaries tested" : "no boundaries are tested of " + missing);
    if (!missing.isEmpty()) System.exit(1);
  }
}
