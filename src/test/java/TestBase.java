import java.lang.reflect.Method;
import java.util.function.IntToLongFunction;

/** What the tests share: objects made ready, and a tally of the answers that are not as due. */
abstract class TestBase {
  static final int BAD = -1, FULL = -2, NONE = -3;
  static final int NOTHING = -11, OUTSIDE = -12, OTHER_SORT = -13, SIZE_BELOW = -14, PARTED_BY_0 = -15;
  static final int LEARNER = 0, COUNTER = 1, PARROT = 2, AFRAID = 3, SURE = 4, GUESSER = 5;
  static final int FORGET = 0, FLOOR = 1, SLIP = 2;
  static final int LOW = Integer.MIN_VALUE, HIGH = Integer.MAX_VALUE;
  static final long ALL = (1L << 36) - 1;

  static String where = "";
  static int wrong = 0;

  // ---- the tally

  static void due(String call, long got, long want) {
    if (got == want) return;
    wrong++;
    System.out.println(where + ": " + call + " answered " + got + ", due is " + want);
  }

  /** All from least to most are taken; the first ones beyond, and the farthest, are refused. */
  static void range(String call, IntToLongFunction answer, int least, int most, long refusal) {
    for (int v = least; v <= most; v++) {
      if (answer.applyAsLong(v) != refusal) continue;
      wrong++;
      System.out.println(where + ": " + call + " refused " + v);
    }
    for (int v : new int[] {least - 1, most + 1, LOW, HIGH}) due(call + " of " + v, answer.applyAsLong(v), refusal);
  }

  /** Runs every test of a class that bears a Sentence, each under its words. */
  static void runSentences(Class<?> tests) throws Exception {
    int sentences = 0;
    for (Method test : tests.getDeclaredMethods()) {
      Sentence sentence = test.getAnnotation(Sentence.class);
      if (sentence == null) continue;
      where = test.getName() + " (" + sentence.value() + ")";
      test.setAccessible(true);
      test.invoke(null);
      sentences++;
    }
    end(sentences + " sentences hold");
  }

  static void end(String ifRight) {
    System.out.println(wrong == 0 ? ifRight : wrong + " answers are not as due");
    if (wrong != 0) System.exit(1);
  }

  // ---- objects made ready

  static SevenEights with(int kind, int a) {
    SevenEights x = new SevenEights();
    x.learner(kind, a);
    return x;
  }

  /** With one LEARNER in whose head all FIRM is 0. */
  static SevenEights blank(int kind, int a) {
    SevenEights x = with(kind, a);
    allFirm(x, 0, 0);
    return x;
  }

  /** With LEARNERS up to number n, the last one of a KIND with its A. */
  static SevenEights withNumber(int n, int kind, int a) {
    SevenEights x = new SevenEights();
    for (int i = 0; i < n; i++) x.learner(LEARNER, 0);
    x.learner(kind, a);
    return x;
  }

  static void allFirm(SevenEights x, int learner, int v) {
    for (int pair = 0; pair < 36; pair++) x.firm(learner, pair, v);
  }

  /** In eights, so that a long text takes few calls. */
  static int feedAll(SevenEights x, String text) {
    int has = 0;
    for (int i = 0; i < text.length(); i += 8) {
      int n = Math.min(8, text.length() - i);
      long eight = 0;
      for (int k = 0; k < n; k++) eight |= (long) (text.charAt(i + k) & 255) << 8 * k;
      has = x.feed(eight, n);
    }
    return has;
  }

  static int read(SevenEights x, String text) {
    feedAll(x, text);
    return x.lesson();
  }

  static long setOf(int... pairs) {
    long set = 0;
    for (int pair : pairs) set |= 1L << pair;
    return set;
  }

  // ---- what is due, four or three answers at once

  static void dueWould(SevenEights x, int pair, int t, int said, int how, int seconds, int by) {
    int[] want = {said, how, seconds, by};
    for (int what = 0; what < 4; what++) due("would of " + pair + " in " + t + ", " + what, x.would(0, pair, t, what), want[what]);
  }

  static void dueHead(SevenEights x, int pair, int firm, int rights, int latest) {
    due("FIRM of " + pair, x.head(0, pair, 0), firm);
    due("RIGHTS of " + pair, x.head(0, pair, 1), rights);
    due("LATEST of " + pair, x.head(0, pair, 2), latest);
  }
}
