import java.util.function.IntToLongFunction;

/** What every call takes: the last values that are taken and the first ones that are refused, on each side. */
public final class ArgumentBoundariesTest extends TestBase {
  /** A call on an object, by one of its arguments. */
  private interface Call {
    long of(SevenEights x, int v);
  }

  public static void main(String[] args) throws Exception {
    runSentences(ArgumentBoundariesTest.class);
  }

  /** Each value on a new object with four LEARNERS who know nothing at all but 9 9. */
  private static IntToLongFunction onFour(Call call) {
    return v -> {
      SevenEights x = new SevenEights();
      for (int n = 0; n < 4; n++) {
        x.learner(PARROT, 0);
        allFirm(x, n, 0);
        x.firm(n, 35, 30);
      }
      return call.of(x, v);
    };
  }

  private static void learners(String name, Call call) {
    range(name + " with 4 LEARNERS", onFour(call), 0, 3, BAD);
    range(name + " with 1 LEARNER", v -> call.of(blank(GUESSER, 0), v), 0, 0, BAD);
    for (int v : new int[] {0, 1, 3, 4, -1, LOW, HIGH}) due(name + " with none", call.of(new SevenEights(), v), BAD);
  }

  private static void pairs(String name, Call call) {
    range(name, onFour(call), 0, 35, BAD);
  }

  private static void seconds(String name, Call call) {
    range(name, onFour(call), 1, 9, BAD);
  }

  @Sentence(value = "BAD (-1) there is no such thing", promises = {5, 9, 10, 11, 14, 15, 16, 17, 19, 20, 21, 23, 24, 26, 27, 30, 31, 34, 35})
  private static void aLearnerMustBeThere() {
    learners("learnerOf", (x, v) -> x.learnerOf(v, 0));
    learners("head", (x, v) -> x.head(v, 0, 0));
    learners("firm", (x, v) -> x.firm(v, 0, 0));
    learners("rights", (x, v) -> x.rights(v, 0, 0));
    learners("feel", (x, v) -> x.feel(v, 0, 1));
    learners("would", (x, v) -> x.would(v, 0, 1, 1));
    learners("ask", (x, v) -> x.ask(v, 0, 1));
    learners("tell", (x, v) -> x.tell(v, 0));
    learners("card", (x, v) -> x.card(v));
    learners("known", (x, v) -> x.known(v, 1));
    learners("friday", (x, v) -> x.friday(v, 0, 1));
    learners("best", (x, v) -> x.best(v, 1, 0, 0));
    learners("till", (x, v) -> x.till(v, 0, 0));
    learners("draws", (x, v) -> x.draws(v, 1, 0));
    learners("give", (x, v) -> x.give(v));
    learners("draw", (x, v) -> x.draw(v, 1));
    learners("prove", (x, v) -> x.prove(v));
    learners("judge", (x, v) -> x.judge(v));
    learners("shelf", (x, v) -> x.shelf(0, 0, v));
    learners("firms", (x, v) -> x.sheet(0, 0, 1) == 1 ? x.firms(0, 0, v, 0, 1) : 0);
  }

  @Sentence(value = "PAIRS 0 to 35", promises = {7, 8, 9, 10, 11, 14, 15, 16, 17, 24, 35})
  private static void aPairMustBeThere() {
    pairs("pairOf", (x, v) -> x.pairOf(v, 0));
    pairs("tied", (x, v) -> x.tied(v));
    pairs("head", (x, v) -> x.head(3, v, 0));
    pairs("firm", (x, v) -> x.firm(3, v, 0));
    pairs("rights", (x, v) -> x.rights(3, v, 0));
    pairs("feel", (x, v) -> x.feel(3, v, 1));
    pairs("would", (x, v) -> x.would(3, v, 1, 1));
    pairs("ask", (x, v) -> x.ask(3, v, 1));
    pairs("tell", (x, v) -> x.tell(3, v));
    pairs("till", (x, v) -> x.till(3, v, 0));
    pairs("firms, one", (x, v) -> x.sheet(0, 0, 1) == 1 ? x.firms(0, 0, 3, v, 1) : 0);
    pairs("firms, none", (x, v) -> x.sheet(0, 0, 1) == 1 ? x.firms(0, 0, 3, v, 0) : 0);
  }

  @Sentence(value = "SECONDS t (1 to 9)", promises = {14, 15, 16, 20, 21, 22, 25, 26, 30})
  private static void oneToNineSeconds() {
    seconds("feel", (x, v) -> x.feel(3, 0, v));
    seconds("would", (x, v) -> x.would(3, 0, v, 1));
    seconds("ask", (x, v) -> x.ask(3, 0, v));
    seconds("known", (x, v) -> x.known(3, v));
    seconds("friday", (x, v) -> x.friday(3, 0, v));
    seconds("odds", (x, v) -> x.odds(v, 1));
    seconds("hardest", (x, v) -> x.hardest(v));
    seconds("draws", (x, v) -> x.draws(3, v, 0));
    seconds("draw", (x, v) -> x.draw(3, v));
  }

  @Sentence(value = "A LEARNER (kind 0 to 5) ... A (0 to 40)", promises = {4, 5})
  private static void kindAndA() {
    range("kind", v -> new SevenEights().learner(v, 0), 0, 5, BAD);
    range("a", v -> new SevenEights().learner(0, v), 0, 40, BAD);
    for (int kind = 0; kind <= 5; kind++) {
      for (int a : new int[] {0, 1, 39, 40}) {
        SevenEights x = with(kind, a);
        due("KIND", x.learnerOf(0, 0), kind);
        due("A", x.learnerOf(0, 1), a);
      }
    }
  }

  @Sentence(value = "Of a LEARNER: what = 0 KIND, 1 A, 2 all FIRM together", promises = {5})
  private static void learnerOfByWhat() {
    range("what", onFour((x, v) -> x.learnerOf(3, v)), 0, 2, BAD);
    SevenEights x = with(AFRAID, 40);
    due("at first", x.learnerOf(0, 2), 2113);
    allFirm(x, 0, 0);
    due("the least", x.learnerOf(0, 2), 0);
    allFirm(x, 0, 100);
    due("the most", x.learnerOf(0, 2), 3600);
  }

  @Sentence(value = "The PAIR of two numbers (2 to 9, in any order)", promises = {6})
  private static void twoToNine() {
    for (int other = 2; other <= 9; other++) {
      int b = other;
      range("a", v -> new SevenEights().pair(v, b), 2, 9, BAD);
      range("b", v -> new SevenEights().pair(b, v), 2, 9, BAD);
    }
    SevenEights x = new SevenEights();
    int[] beyond = {LOW, -2, 0, 1, 10, HIGH};
    for (int a : beyond) {
      for (int b : beyond) due("both beyond", x.pair(a, b), BAD);
    }
  }

  @Sentence(value = "Of a PAIR: what = 0 a, 1 b, 2 the product, 3 FIRM at first", promises = {7})
  private static void pairOfByWhat() {
    for (int pair : new int[] {0, 35}) range("what", v -> new SevenEights().pairOf(pair, v), 0, 3, BAD);
  }

  @Sentence(value = "In a head: what = 0 FIRM, 1 RIGHTS, 2 LATEST (-9: none), 3 BOX, 4 DUE", promises = {9})
  private static void headByWhat() {
    range("what", onFour((x, v) -> x.head(3, 35, v)), 0, 4, BAD);
  }

  @Sentence(value = "FIRM (0 to 100) ... FIRM becomes v: what it was", promises = {10})
  private static void firmFromNoneToAll() {
    range("firm", onFour((x, v) -> x.firm(3, 35, v)), 0, 100, BAD);
    SevenEights x = with(LEARNER, 0);
    due("at first", x.firm(0, 35, 100), 60);
    due("the most", x.firm(0, 35, 0), 100);
    due("the least", x.firm(0, 35, 1), 0);
    for (int v : new int[] {-1, 101, LOW, HIGH}) due("beyond", x.firm(0, 35, v), BAD);
    due("as it was", x.head(0, 35, 0), 1);
    due("next to it", x.head(0, 34, 0), 24);
  }

  @Sentence(value = "RIGHTS (0 to 9; 0 at first) ... RIGHTS become v: what they were", promises = {11})
  private static void rightsFromNoneToNine() {
    range("rights", onFour((x, v) -> x.rights(3, 35, v)), 0, 9, BAD);
    SevenEights x = with(LEARNER, 0);
    due("at first", x.rights(0, 35, 9), 0);
    due("the most", x.rights(0, 35, 0), 9);
    due("the least", x.rights(0, 35, 1), 0);
    for (int v : new int[] {-1, 10, LOW, HIGH}) due("beyond", x.rights(0, 35, v), BAD);
    due("as they were", x.head(0, 35, 1), 1);
    due("next to it", x.head(0, 34, 1), 0);
  }

  @Sentence(value = "A LAW becomes v: what it was", promises = {12})
  private static void lawsByNumber() {
    range("law", v -> new SevenEights().set(v, 0), 0, 2, BAD);
    range("FORGET", v -> new SevenEights().set(0, v), 0, 50, BAD);
    range("FLOOR", v -> new SevenEights().set(1, v), 0, 100, BAD);
    range("SLIP", v -> new SevenEights().set(2, v), 0, 100, BAD);
  }

  @Sentence(value = "what = 0 what is said, 1 how (0 AT ONCE, 1 BY A WAY, 2 BY A SLIP, 3 nothing is), 2 in how many seconds", promises = {15})
  private static void wouldByWhat() {
    range("what", onFour((x, v) -> x.would(3, 35, 9, v)), 0, 3, BAD);
  }

  @Sentence(value = "n NIGHTS (0 to 30)", promises = {18, 21})
  private static void upToThirtyNights() {
    range("nights", onFour((x, v) -> x.nights(v)), 0, 30, BAD);
    range("nights of a new object", v -> new SevenEights().nights(v), 0, 30, BAD);
    range("friday", onFour((x, v) -> x.friday(3, v, 1)), 0, 30, BAD);
    for (int n = 0; n <= 30; n++) due("the DAY then", new SevenEights().nights(n), n);
  }

  @Sentence(value = "as a fraction. BAD; NONE: there are no LEARNERS", promises = {22, 25})
  private static void noLearners() {
    range("part", onFour((x, v) -> x.odds(9, v)), 0, 1, BAD);
    for (int t = 1; t <= 9; t++) {
      due("odds", new SevenEights().odds(t, 0), NONE);
      due("odds", new SevenEights().odds(t, 1), NONE);
      due("hardest", new SevenEights().hardest(t), NONE);
    }
    for (int t : new int[] {0, 10, LOW, HIGH}) {
      due("odds", new SevenEights().odds(t, 0), BAD);
      due("hardest", new SevenEights().hardest(t), BAD);
    }
    for (int part : new int[] {-1, 2, LOW, HIGH}) due("part", new SevenEights().odds(1, part), BAD);
  }

  @Sentence(value = "BEST by n (1, 2) and d ... NIGHTS (0 to 9) ... (what 0) ... (1)", promises = {23})
  private static void bestByItsNumbers() {
    range("n", onFour((x, v) -> x.best(3, v, 0, 0)), 1, 2, BAD);
    range("nights of one", onFour((x, v) -> x.best(3, 1, v, 0)), 0, 9, BAD);
    range("nights of two", onFour((x, v) -> x.best(3, 2, v, 1)), 0, 9, BAD);
    range("what", onFour((x, v) -> x.best(3, 2, 9, v)), 0, 1, BAD);
  }

  @Sentence(value = "TILL (level 0 to 100)", promises = {24})
  private static void tillByLevel() {
    range("level", onFour((x, v) -> x.till(3, 0, v)), 0, 100, BAD);
    due("0", blank(PARROT, 0).till(0, 0, 0), 0);
    due("100", blank(PARROT, 0).till(0, 0, 100), 19);
  }

  @Sentence(value = "DRAWS: the PAIR (what 0), from how many (1)", promises = {26})
  private static void drawsByWhat() {
    range("what", onFour((x, v) -> x.draws(3, 9, v)), 0, 1, BAD);
    // 9 9 draws from 8 9 alone
    due("the PAIR", onFour((x, v) -> x.draws(3, 9, v)).applyAsLong(0), 35);
    due("from how many", onFour((x, v) -> x.draws(3, 9, v)).applyAsLong(1), 1);
  }

  @Sentence(value = "CARD. BAD; NONE", promises = {19})
  private static void cardOfNone() {
    SevenEights x = with(LEARNER, 0);
    for (int p = 0; p < 36; p++) x.ask(0, p, 1);
    due("none today", x.card(0), NONE);
    for (int v : new int[] {1, -1, LOW, HIGH}) due("no LEARNER", x.card(v), BAD);
  }
}
