import java.util.LinkedHashMap;
import java.util.Map;
import java.util.function.Predicate;
import java.util.function.Supplier;

/**
 * "Answers below 0, where not told otherwise, are refusals; such a call changes nothing": all that can
 * be asked of an object is answered alike with the call and without it. So it is with calls that only ask.
 */
public final class RefusedCallsTest extends TestBase {
  private static final int STATE_LEARNERS = 4;
  private static final Predicate<String> ALL_OF_IT = label -> true;
  private static final Predicate<String> NOT_THE_TRACE = label -> !label.contains("trace") && !label.contains("many 4");
  private static final Predicate<String> NOT_THE_ROWS = label -> !label.contains("row ") && !label.contains("many 2");
  private static final Predicate<String> NOT_KEPT = label -> !label.startsWith("kept");

  private interface Call {
    long on(SevenEights x);
  }

  private interface Question {
    void ask(SevenEights x, String as, Map<String, Long> told);
  }

  public static void main(String[] args) throws Exception {
    runSentences(RefusedCallsTest.class);
  }

  // ---- all that can be asked of an object

  /** Every question gets an object of its own, as some questions change it and none may have more than 512 calls. */
  private static Map<String, Long> probe(Supplier<SevenEights> made) {
    Map<String, Long> told = new LinkedHashMap<>();
    for (int n = 0; n < STATE_LEARNERS; n++) {
      int learner = n;
      askNowAndKept(made, told, (x, as, to) -> head(x, learner, as, to));
    }
    askNowAndKept(made, told, RefusedCallsTest::school);
    for (int s = 0; s < 4; s++) sheet(made.get(), s, told);
    rest(made.get(), told);
    tape(made.get(), told);
    return told;
  }

  private static void askNowAndKept(Supplier<SevenEights> made, Map<String, Long> told, Question question) {
    question.ask(made.get(), "now", told);
    SevenEights x = made.get();
    told.put("kept", (long) x.again());
    question.ask(x, "kept", told);
  }

  private static void head(SevenEights x, int learner, String as, Map<String, Long> told) {
    for (int pair = 0; pair < 36; pair++) {
      for (int what = 0; what < 3; what++) told.put(as + " head " + learner + " " + pair + " " + what, (long) x.head(learner, pair, what));
    }
  }

  private static void school(SevenEights x, String as, Map<String, Long> told) {
    told.put(as + " learners", (long) x.many(0));
    for (int n = 0; n < STATE_LEARNERS; n++) {
      for (int what = 0; what < 3; what++) told.put(as + " learnerOf " + n + " " + what, (long) x.learnerOf(n, what));
    }
    told.put(as + " day", (long) x.day());
    told.put(as + " items", (long) x.many(1));
    for (int i = 0; i < 12; i++) {
      for (int what = 0; what < 3; what++) told.put(as + " item " + i + " " + what, (long) x.item(i, what));
    }
    for (int law = 0; law < 3; law++) told.put(as + " law " + law, (long) x.set(law, 0));
    told.put(as + " z", (long) x.seed(0));
  }

  private static void sheet(SevenEights x, int sheet, Map<String, Long> told) {
    for (int sort = 0; sort < 4; sort++) {
      for (int i = 0; i < 40; i++) told.put("sheet " + sheet + " " + sort + " " + i, (long) x.number(sheet, sort, i));
    }
  }

  private static void rest(SevenEights x, Map<String, Long> told) {
    for (int what = 0; what < 5; what++) told.put("many " + what, (long) x.many(what));
    for (int i = 0; i < 12; i++) {
      for (int what = 0; what < 3; what++) told.put("row " + i + " " + what, (long) x.row(i, what));
    }
    for (int i = 0; i < 30; i++) told.put("trace " + i, (long) x.trace(i));
    for (int shelf = 0; shelf < 4; shelf++) {
      for (int as = 0; as < 14; as++) told.put("shelf " + shelf + " " + as, (long) x.taken(shelf, as));
    }
  }

  private static void tape(SevenEights x, Map<String, Long> told) {
    told.put("tape", (long) x.lesson());
    for (int i = 0; i < 12; i++) {
      for (int what = 0; what < 3; what++) told.put("tape " + i + " " + what, (long) x.item(i, what));
    }
  }

  // ---- objects in many states

  /** With something of all there is: what is kept is another state than what is now. */
  private static SevenEights aClass() {
    SevenEights x = with(GUESSER, 11);
    x.learner(COUNTER, 1);
    read(x, "rest 2;ask 2 2 in 9;tell 9 9;");
    x.give(1);
    x.set(FORGET, 5);
    x.set(FLOOR, 50);
    x.set(SLIP, 20);
    x.seed(99);
    x.rights(0, 35, 4);
    x.keep();
    x.learner(SURE, 2);
    x.learner(AFRAID, 5);
    read(x, "ask 7 8 in 3;tell 3 3;rest 1;ask 9 9 in 1;ask 2 2 in 9;");
    x.give(2);
    x.give(3);
    x.set(FORGET, 20);
    x.set(FLOOR, 35);
    x.set(SLIP, 10);
    x.seed(-77);
    x.firm(3, 34, 0);
    x.rights(2, 33, 9);
    x.prove(1);
    x.alterRow(2, 1, LOW);
    x.sheet(0, 0, 40);
    x.put(0, 0, 77);
    x.put(0, 39, -5);
    x.sheet(2, 3, 3);
    x.put(2, 2, HIGH);
    x.sheet(3, 1, 0);
    x.shelf(0, 0, 2);
    x.shelf(1, 1, 0);
    x.shelf(3, 0, 3);
    x.act(3, 3, 5);
    feedAll(x, "tell 2 3;".repeat(12) + " ".repeat(88));
    return x;
  }

  private static SevenEights aClassWithoutTape() {
    SevenEights x = aClass();
    x.lesson();
    feedAll(x, "ask 7 8 in 3;rest 1;");
    x.lesson();
    return x;
  }

  private static SevenEights aClassWithoutTrace() {
    SevenEights x = aClass();
    x.act(2, 0, 0);
    return x;
  }

  /** All are known in 1 second and were asked today. */
  private static SevenEights allKnown() {
    SevenEights x = with(LEARNER, 0);
    x.seed(5);
    for (int p = 0; p < 36; p++) {
      x.firm(0, p, 100);
      x.ask(0, p, 1);
    }
    return x;
  }

  /** Nothing is known, and no one slips. */
  private static SevenEights nothingKnown() {
    SevenEights x = blank(PARROT, 0);
    x.nights(3);
    return x;
  }

  // ---- the same with a call and without it

  private static void same(String call, Map<String, Long> want, Map<String, Long> got, Predicate<String> which) {
    for (Map.Entry<String, Long> one : want.entrySet()) {
      if (which.test(one.getKey())) due(one.getKey() + " behind " + call, got.get(one.getKey()), one.getValue());
    }
  }

  private static void unchanged(Supplier<SevenEights> made, String name, long answer, Predicate<String> which, Call call) {
    due(name, call.on(made.get()), answer);
    same(name, probe(made), probeBehind(made, call), which);
  }

  private static Map<String, Long> probeBehind(Supplier<SevenEights> made, Call call) {
    return probe(() -> {
      SevenEights x = made.get();
      call.on(x);
      return x;
    });
  }

  /** A refused call on a full class. */
  private static void refused(String name, long answer, Call call) {
    unchanged(RefusedCallsTest::aClass, name, answer, ALL_OF_IT, call);
  }

  /** A call that only asks, whatever it answers. */
  private static void asked(String name, Call call) {
    unchanged(RefusedCallsTest::aClass, name, call.on(aClass()), ALL_OF_IT, call);
  }

  @Sentence(value = "such a call changes nothing", promises = {2, 4, 10, 11, 12})
  private static void refusedLearners() {
    for (int n : new int[] {0, 9, -1, LOW, HIGH}) refused("feed " + n, BAD, x -> x.feed(-1, n));
    for (int n : new int[] {5, 8}) refused("feed " + n, FULL, x -> x.feed(-1, n));
    for (int kind : new int[] {-1, 6}) refused("learner " + kind, BAD, x -> x.learner(kind, 0));
    for (int a : new int[] {-1, 41}) refused("learner of " + a, BAD, x -> x.learner(0, a));
    refused("learner", FULL, x -> x.learner(5, 40));
    for (int v : new int[] {-1, 101}) refused("firm " + v, BAD, x -> x.firm(0, 0, v));
    for (int v : new int[] {-1, 10}) refused("rights " + v, BAD, x -> x.rights(0, 0, v));
    for (int pair : new int[] {-1, 36}) refused("firm of " + pair, BAD, x -> x.firm(0, pair, 7));
    for (int pair : new int[] {-1, 36}) refused("rights of " + pair, BAD, x -> x.rights(0, pair, 7));
    for (int who : new int[] {-1, 4}) refused("firm in " + who, BAD, x -> x.firm(who, 0, 7));
    for (int who : new int[] {-1, 4}) refused("rights in " + who, BAD, x -> x.rights(who, 0, 7));
    for (int law : new int[] {-1, 3}) refused("set " + law, BAD, x -> x.set(law, 7));
    int[] most = {50, 100, 100};
    for (int law = 0; law < 3; law++) {
      int of = law;
      refused("set below", BAD, x -> x.set(of, -1));
      refused("set above", BAD, x -> x.set(of, most[of] + 1));
    }
  }

  @Sentence(value = "such a call changes nothing", promises = {16, 17, 18, 27, 30, 31, 34})
  private static void refusedAsking() {
    for (int t : new int[] {0, 10}) refused("ask in " + t, BAD, x -> x.ask(0, 31, t));
    for (int pair : new int[] {-1, 36}) refused("ask " + pair, BAD, x -> x.ask(0, pair, 9));
    for (int pair : new int[] {-1, 36}) refused("tell " + pair, BAD, x -> x.tell(0, pair));
    for (int n : new int[] {-1, 31, LOW, HIGH}) refused("nights " + n, BAD, x -> x.nights(n));
    for (int t : new int[] {0, 10}) refused("draw in " + t, BAD, x -> x.draw(0, t));
    for (int who : new int[] {-1, 4, LOW, HIGH}) {
      refused("ask in " + who, BAD, x -> x.ask(who, 31, 9));
      refused("tell in " + who, BAD, x -> x.tell(who, 31));
      refused("give to " + who, BAD, x -> x.give(who));
      refused("draw for " + who, BAD, x -> x.draw(who, 1));
      refused("prove " + who, BAD, x -> x.prove(who));
      refused("judge " + who, BAD, x -> x.judge(who));
    }
    unchanged(RefusedCallsTest::allKnown, "draw", NONE, ALL_OF_IT, x -> x.draw(0, 1));
  }

  @Sentence(value = "such a call changes nothing", promises = {33, 35})
  private static void refusedRows() {
    for (int i : new int[] {-1, 3, 12, LOW, HIGH}) refused("alterRow " + i, -99, x -> x.alterRow(i, 0, 7));
    for (int what : new int[] {-1, 3}) refused("alterRow of " + what, -99, x -> x.alterRow(0, what, 7));
    for (int sheet : new int[] {-1, 4}) refused("firms of " + sheet, BAD, x -> x.firms(sheet, 0, 0, 0, 1));
    for (int who : new int[] {-1, 4}) refused("firms in " + who, BAD, x -> x.firms(0, 0, who, 0, 1));
    for (int pair : new int[] {-1, 36}) refused("firms from " + pair, BAD, x -> x.firms(0, 0, 0, pair, 1));
    for (int n : new int[] {-1, 37, LOW, HIGH}) refused("firms, n " + n, BAD, x -> x.firms(0, 0, 0, 0, n));
    refused("firms beyond the last PAIR", BAD, x -> x.firms(0, 0, 0, 34, 3));
    refused("firms of a missing one", NOTHING, x -> x.firms(1, 0, 0, 0, 1));
    refused("firms of longs", OTHER_SORT, x -> x.firms(2, 0, 0, 0, 1));
    refused("firms of shorts", OTHER_SORT, x -> x.firms(3, 0, 0, 0, 0));
    for (int i : new int[] {-1, 40, LOW, HIGH}) refused("firms at " + i, OUTSIDE, x -> x.firms(0, i, 0, 0, 1));
    // the first ones would be inside
    refused("firms over the end", OUTSIDE, x -> x.firms(0, 39, 0, 0, 2));
    refused("firms over the end", OUTSIDE, x -> x.firms(0, 5, 0, 0, 36));
  }

  @Sentence(value = "such a call changes nothing", promises = {36, 37, 39, 45})
  private static void refusedHost() {
    for (int sheet : new int[] {-1, 4}) refused("sheet " + sheet, BAD, x -> x.sheet(sheet, 0, 1));
    for (int sort : new int[] {-2, 4}) refused("sheet of " + sort, BAD, x -> x.sheet(0, sort, 1));
    for (int n : new int[] {41, HIGH}) refused("sheet, n " + n, BAD, x -> x.sheet(0, 2, n));
    for (int n : new int[] {-1, LOW}) refused("sheet, n " + n, SIZE_BELOW, x -> x.sheet(0, 2, n));
    for (int sheet : new int[] {-1, 4}) refused("put into " + sheet, BAD, x -> x.put(sheet, 0, 1));
    refused("put into a missing one", NOTHING, x -> x.put(1, 0, 1));
    for (int i : new int[] {-1, 40, LOW, HIGH}) refused("put at " + i, OUTSIDE, x -> x.put(0, i, 1));
    for (int i : new int[] {-1, 3, 39}) refused("put at " + i, OUTSIDE, x -> x.put(2, i, 1));
    refused("put into none", OUTSIDE, x -> x.put(3, 0, 1));
    for (int shelf : new int[] {-1, 4}) {
      for (int what = 0; what < 3; what++) {
        int of = what;
        refused("shelf " + shelf, BAD, x -> x.shelf(shelf, of, 0));
      }
    }
    for (int what : new int[] {-1, 3}) refused("shelf of " + what, BAD, x -> x.shelf(0, what, 0));
    for (int n : new int[] {-1, 4, LOW, HIGH}) {
      refused("shelf with LEARNER " + n, BAD, x -> x.shelf(0, 0, n));
      refused("shelf with SHEET " + n, BAD, x -> x.shelf(0, 1, n));
    }
    unchanged(RefusedCallsTest::allKnown, "again", NONE, ALL_OF_IT, x -> x.again());
    unchanged(SevenEights::new, "again", NONE, ALL_OF_IT, x -> x.again());
  }

  @Sentence(value = "such a call changes nothing (but that THE TAPE is used up by lesson())", promises = {3})
  private static void refusedLesson() {
    for (String text : new String[] {";", "ask", "rest 1;rest 2;rest 0;", "tell 7 8", "rest 1;".repeat(13), "A", "tell 7 8;x"}) {
      Map<String, Long> got = probe(() -> {
        SevenEights x = aClassWithoutTape();
        if (read(x, text) >= 0) wrong++;
        return x;
      });
      same("lesson of '" + text + "'", probe(RefusedCallsTest::aClassWithoutTape), got, ALL_OF_IT);
    }
  }

  @Sentence(value = "0, and no TRACE then: no such SHELF, act, nothing, a row", promises = {41})
  private static void refusedAct() {
    Map<String, Long> want = probe(RefusedCallsTest::aClassWithoutTrace);
    due("no bodies", want.get("many 4"), 0);
    int[][] wrongs = {{-1, 0}, {4, 0}, {0, -1}, {0, 4}, {1, 0}, {2, 0}};
    for (int[] call : wrongs) {
      due("act", aClass().act(call[0], call[1], 5), 0);
      same("act", want, probeBehind(RefusedCallsTest::aClass, x -> x.act(call[0], call[1], 5)), ALL_OF_IT);
    }
  }

  @Sentence(value = "-15 parted by 0", promises = {41})
  private static void partedByZero() {
    unchanged(RefusedCallsTest::aClass, "act", PARTED_BY_0, NOT_THE_TRACE, x -> x.act(0, 2, 5));
    due("of sure with A 2 and number 2", aClass().taken(0, SURE), 2);
  }

  @Sentence("Answers below 0, where not told otherwise, are refusals; such a call changes nothing")
  private static void refusedQuestions() {
    refused("learnerOf", BAD, x -> x.learnerOf(4, 0));
    refused("head", BAD, x -> x.head(0, 36, 0));
    refused("feel", BAD, x -> x.feel(0, 0, 10));
    refused("would", BAD, x -> x.would(0, 0, 1, 4));
    refused("card", BAD, x -> x.card(4));
    unchanged(RefusedCallsTest::allKnown, "card", NONE, ALL_OF_IT, x -> x.card(0));
    refused("known", BAD, x -> x.known(0, 0));
    refused("friday", BAD, x -> x.friday(0, 31, 1));
    refused("odds", BAD, x -> x.odds(1, 2));
    unchanged(SevenEights::new, "odds", NONE, ALL_OF_IT, x -> x.odds(1, 0));
    unchanged(SevenEights::new, "hardest", NONE, ALL_OF_IT, x -> x.hardest(1));
    refused("best", BAD, x -> x.best(0, 3, 0, 0));
    refused("till", BAD, x -> x.till(0, 0, 101));
    refused("draws", BAD, x -> x.draws(0, 1, 2));
    unchanged(RefusedCallsTest::nothingKnown, "draws", NONE, ALL_OF_IT, x -> x.draws(0, 9, 0));
    refused("item", NONE, x -> x.item(5, 0));
    refused("row", -99, x -> x.row(3, 0));
    refused("number", OUTSIDE, x -> x.number(0, 0, 40));
    refused("taken", OTHER_SORT, x -> x.taken(0, 5));
    refused("trace", NONE, x -> x.trace(11));
    refused("many", BAD, x -> x.many(5));
  }

  @Sentence("Nothing is promised beyond the answers and state changes described above")
  private static void questionsChangeNothing() {
    for (int n = 0; n < 4; n++) {
      int who = n;
      asked("learnerOf", x -> x.learnerOf(who, 2));
      asked("feel", x -> x.feel(who, 31, 1));
      for (int t = 1; t <= 9; t += 2) {
        int in = t;
        asked("would", x -> x.would(who, 31, in, 0));
        asked("known", x -> x.known(who, in));
        asked("friday", x -> x.friday(who, 30, in));
        asked("draws", x -> x.draws(who, in, 1));
      }
      asked("card", x -> x.card(who));
      asked("best", x -> x.best(who, 1, 9, 1));
      asked("best", x -> x.best(who, 2, 0, 0));
      asked("till", x -> x.till(who, 34, 100));
      asked("judge", x -> x.judge(who));
      asked("head", x -> x.head(who, 0, 4));
    }
    asked("odds", x -> x.odds(3, 0));
    asked("hardest", x -> x.hardest(3));
    asked("day", x -> x.day());
    asked("pair", x -> x.pair(7, 8));
    asked("pairOf", x -> x.pairOf(31, 3));
    asked("tied", x -> x.tied(31));
    asked("nights(0)", x -> x.nights(0));
    asked("firms of none", x -> x.firms(0, 40, 0, 35, 0));
  }

  @Sentence(value = "ROWS ... if it were GIVEN now (nothing changes)", promises = {31})
  private static void proofChangesRowsAlone() {
    for (int n = 0; n < 4; n++) {
      int who = n;
      unchanged(RefusedCallsTest::aClass, "prove", 3, NOT_THE_ROWS, x -> x.prove(who));
    }
  }

  @Sentence(value = "All but THE TAPE, ROWS, SHEETS, SHELVES, THE TRACE is kept ... It becomes what was kept", promises = {44, 45})
  private static void keepingAndComingAgain() {
    unchanged(RefusedCallsTest::aClass, "keep", 1, NOT_KEPT, x -> x.keep());
    Map<String, Long> before = probe(RefusedCallsTest::aClass), behind = probeBehind(RefusedCallsTest::aClass, x -> x.again());
    for (Map.Entry<String, Long> one : before.entrySet()) {
      String label = one.getKey();
      // SHELVES 0 and 3 held LEARNERS 2 and 3, who are no more; many 0 and 1 are of what is kept
      boolean isOther = label.startsWith("now") || label.startsWith("shelf 0") || label.startsWith("shelf 3")
        || label.equals("many 0") || label.equals("many 1");
      if (!isOther) due(label + " behind again", behind.get(label), one.getValue());
      if (label.startsWith("kept ")) due("now" + label.substring(4), behind.get("now" + label.substring(4)), one.getValue());
    }
    due("nothing on SHELF 0", behind.get("shelf 0 4"), NOTHING);
    due("nothing on SHELF 3", behind.get("shelf 3 3"), NOTHING);
  }
}
