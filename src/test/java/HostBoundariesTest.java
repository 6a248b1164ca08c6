/** SHEETS, SHELVES, ACTS, THE TRACE and what is kept: each sentence that names a boundary. */
public final class HostBoundariesTest extends TestBase {
  private static final int SAYS = 0, LEARNS = 1, SHARES = 2, TELLS = 3;
  private static final int BYTE = 0, SHORT = 1, INT = 2, LONG = 3;

  public static void main(String[] args) throws Exception {
    runSentences(HostBoundariesTest.class);
  }

  // ---- SHEETS

  @Sentence(value = "SHEETS 0 to 3 are ... missing (at first)", promises = {1, 35, 37, 38})
  private static void sheetsAreMissingAtFirst() {
    for (int sheet = 0; sheet < 4; sheet++) {
      SevenEights x = with(LEARNER, 0);
      for (int sort = 0; sort < 4; sort++) due("number", x.number(sheet, sort, 0), NOTHING);
      due("put", x.put(sheet, 0, 1), NOTHING);
      due("firms", x.firms(sheet, 0, 0, 0, 0), NOTHING);
      due("on a SHELF", x.shelf(0, 1, sheet), 1);
      due("nothing", x.taken(0, 10), NOTHING);
    }
  }

  @Sentence(value = "A SHEET becomes a row of n of a sort, all 0 ... n above 40; -14", promises = {36})
  private static void sheetsOfUpToForty() {
    for (int sort = 0; sort < 4; sort++) {
      SevenEights x = new SevenEights();
      for (int n : new int[] {1, 39, 40}) {
        due("row of " + n, x.sheet(3, sort, n), 1);
        for (int i = 0; i < n; i++) due("0", x.number(3, sort, i), 0);
        due("no more", x.number(3, sort, n), OUTSIDE);
        due("put at the last", x.put(3, n - 1, 5), 1);
        due("put beyond", x.put(3, n, 5), OUTSIDE);
      }
      for (int n : new int[] {41, 42, HIGH}) due("above 40", x.sheet(3, sort, n), BAD);
      for (int n : new int[] {-1, -2, LOW}) due("below 0", x.sheet(3, sort, n), SIZE_BELOW);
      due("it is as it was", x.number(3, sort, 39), 5);
      due("of none", x.sheet(3, sort, 0), 1);
      due("it has none", x.number(3, sort, 0), OUTSIDE);
      due("but isn't missing", x.put(3, 0, 0), OUTSIDE);
    }
  }

  @Sentence(value = "all 0", promises = {36})
  private static void sheetsAnewAreAllZero() {
    SevenEights x = new SevenEights();
    x.sheet(0, LONG, 40);
    for (int i = 0; i < 40; i++) x.put(0, i, -1);
    x.sheet(0, BYTE, 1);
    due("0", x.number(0, BYTE, 0), 0);
    x.sheet(0, LONG, 40);
    for (int i = 0; i < 40; i++) due("0 at " + i, x.number(0, LONG, i), 0);
  }

  @Sentence(value = "or missing (sort -1; n counts nothing then): 1", promises = {36})
  private static void sheetsBecomeMissing() {
    for (int n : new int[] {0, 40, 41, -1, LOW, HIGH}) {
      SevenEights x = new SevenEights();
      x.sheet(2, INT, 3);
      due("missing, n " + n, x.sheet(2, -1, n), 1);
      due("it is", x.number(2, INT, 0), NOTHING);
      due("missing still", x.sheet(2, -1, n), 1);
    }
  }

  @Sentence(value = "SHEETS 0 to 3", promises = {35, 36, 37, 38, 39})
  private static void sheetsByNumber() {
    range("sheet", s -> new SevenEights().sheet(s, BYTE, 1), 0, 3, BAD);
    range("sheet, missing", s -> new SevenEights().sheet(s, -1, 1), 0, 3, BAD);
    range("put", s -> new SevenEights().put(s, 0, 1), 0, 3, BAD);
    range("number", s -> new SevenEights().number(s, 0, 0), 0, 3, BAD);
    range("firms", s -> with(0, 0).firms(s, 0, 0, 0, 0), 0, 3, BAD);
    range("shelf", s -> new SevenEights().shelf(0, 1, s), 0, 3, BAD);
    SevenEights x = new SevenEights();
    for (int s = 0; s < 4; s++) x.sheet(s, INT, s + 1);
    for (int s = 0; s < 4; s++) x.put(s, s, 100 + s);
    for (int s = 0; s < 4; s++) due("each is its own", x.number(s, INT, s), 100 + s);
  }

  @Sentence(value = "rows of bytes (sort 0), shorts (1), ints (2) or longs (3)", promises = {36, 38, 40})
  private static void sortsByNumber() {
    range("sheet", sort -> new SevenEights().sheet(0, sort, 1), -1, 3, BAD);
    range("number", sort -> new SevenEights().number(0, sort, 0), 0, 3, BAD);
    for (int sort = 0; sort < 4; sort++) {
      SevenEights x = new SevenEights();
      x.sheet(0, sort, 1);
      for (int as = 0; as < 4; as++) due(sort + " as " + as, x.number(0, as, 0), as == sort ? 0 : OTHER_SORT);
    }
  }

  @Sentence(value = "Item i becomes v, narrowed to its sort: 1", promises = {37, 38})
  private static void narrowedToItsSort() {
    // v, then what it is of bytes, shorts, ints, longs
    int[][] values = {
      {127, 127, 127, 127, 127}, {128, -128, 128, 128, 128}, {-128, -128, -128, -128, -128}, {-129, 127, -129, -129, -129},
      {255, -1, 255, 255, 255}, {256, 0, 256, 256, 256}, {32767, -1, 32767, 32767, 32767}, {32768, 0, -32768, 32768, 32768},
      {-32768, 0, -32768, -32768, -32768}, {-32769, -1, 32767, -32769, -32769}, {65535, -1, -1, 65535, 65535},
      {65536, 0, 0, 65536, 65536}, {HIGH, -1, -1, HIGH, HIGH}, {LOW, 0, 0, LOW, LOW}, {-1, -1, -1, -1, -1}};
    for (int sort = 0; sort < 4; sort++) {
      SevenEights x = new SevenEights();
      x.sheet(1, sort, 40);
      for (int[] value : values) {
        due("put", x.put(1, 39, value[0]), 1);
        due(value[0] + " of sort " + sort, x.number(1, sort, 39), value[sort + 1]);
        due("the one ahead of it", x.number(1, sort, 38), 0);
      }
    }
  }

  @Sentence(value = "-12 a place outside", promises = {37, 38})
  private static void placesOutside() {
    for (int sort = 0; sort < 4; sort++) {
      int of = sort;
      for (int n : new int[] {1, 2, 39, 40}) {
        SevenEights x = new SevenEights();
        x.sheet(0, sort, n);
        range("put of " + n, i -> x.put(0, i, 3), 0, n - 1, OUTSIDE);
        range("number of " + n, i -> x.number(0, of, i), 0, n - 1, OUTSIDE);
      }
      SevenEights x = new SevenEights();
      x.sheet(0, sort, 0);
      for (int i : new int[] {0, -1, 1, LOW, HIGH}) {
        due("put into none", x.put(0, i, 3), OUTSIDE);
        due("number of none", x.number(0, sort, i), OUTSIDE);
      }
    }
  }

  @Sentence(value = "(An item may be as low as these, too.)", promises = {38})
  private static void itemsAsLowAsRefusals() {
    SevenEights x = new SevenEights();
    for (int sort = 0; sort < 4; sort++) {
      x.sheet(sort, sort, 1);
      for (int v : new int[] {BAD, FULL, NONE, -4, NOTHING, OUTSIDE, OTHER_SORT, SIZE_BELOW, PARTED_BY_0}) {
        due("put", x.put(sort, 0, v), 1);
        due("number", x.number(sort, sort, 0), v);
      }
    }
  }

  // ---- firms

  @Sentence(value = "n numbers (0 to 36) ... or n goes beyond the last PAIR", promises = {35})
  private static void firmsUpToTheLastPair() {
    for (int pair : new int[] {0, 1, 20, 34, 35}) {
      range("n from " + pair, n -> {
        SevenEights x = with(LEARNER, 0);
        x.sheet(0, BYTE, 40);
        return x.firms(0, 0, 0, pair, n);
      }, 0, 36 - pair, BAD);
    }
    SevenEights x = with(LEARNER, 0);
    x.sheet(0, BYTE, 40);
    for (int i = 0; i < 40; i++) x.put(0, i, 10 + i);
    due("all", x.firms(0, 4, 0, 0, 36), 36);
    due("the first", x.head(0, 0, 0), 14);
    due("the last", x.head(0, 35, 0), 49);
    due("none", x.firms(0, 0, 0, 0, 0), 0);
    due("as it was", x.head(0, 0, 0), 14);
    due("two in the middle", x.firms(0, 0, 0, 17, 2), 2);
    int[] want = {30, 10, 11, 33};
    for (int k = 0; k < 4; k++) due("FIRM of " + (16 + k), x.head(0, 16 + k, 0), want[k]);
  }

  @Sentence(value = "(held to 0 to 100)", promises = {35})
  private static void firmsHeldToAHundred() {
    int[][] values = {{-128, 0}, {-1, 0}, {0, 0}, {1, 1}, {99, 99}, {100, 100}, {101, 100}, {127, 100}, {128, 0}, {200, 0}, {300, 44}};
    for (int[] value : values) {
      SevenEights x = with(LEARNER, 0);
      x.sheet(0, BYTE, 1);
      x.put(0, 0, value[0]);
      due("one", x.firms(0, 0, 0, 35, 1), 1);
      dueHead(x, 35, value[1], 0, -9);
    }
  }

  @Sentence(value = "from i on ... -12", promises = {35})
  private static void firmsFromAPlace() {
    SevenEights x = with(LEARNER, 0);
    x.sheet(0, BYTE, 10);
    range("one from i", i -> x.firms(0, i, 0, 0, 1), 0, 9, OUTSIDE);
    range("none from i", i -> x.firms(0, i, 0, 0, 0), 0, 10, OUTSIDE);
    range("ten from i", i -> x.firms(0, i, 0, 0, 10), 0, 0, OUTSIDE);
    due("eleven", x.firms(0, 0, 0, 0, 11), OUTSIDE);
    due("all 36", x.firms(0, 0, 0, 0, 36), OUTSIDE);
    due("three from 7", x.firms(0, 7, 0, 0, 3), 3);
    due("three from 8", x.firms(0, 8, 0, 0, 3), OUTSIDE);
    x.sheet(0, BYTE, 0);
    due("none of none", x.firms(0, 0, 0, 0, 0), 0);
    due("one of none", x.firms(0, 0, 0, 0, 1), OUTSIDE);
    due("none from 1 of none", x.firms(0, 1, 0, 0, 0), OUTSIDE);
    due("none from -1 of none", x.firms(0, -1, 0, 0, 0), OUTSIDE);
  }

  @Sentence(value = "of a SHEET taken for bytes ... -13", promises = {35})
  private static void firmsOfBytesAlone() {
    SevenEights x = with(LEARNER, 0);
    for (int sort = 1; sort < 4; sort++) {
      x.sheet(0, sort, 2);
      due("of sort " + sort, x.firms(0, 0, 0, 0, 1), OTHER_SORT);
      due("none of sort " + sort, x.firms(0, 0, 0, 0, 0), OTHER_SORT);
    }
  }

  // ---- the order of refusals

  @Sentence(value = "of several the first named", promises = {2, 4, 22, 25, 28, 35, 36, 37, 38, 40})
  private static void theFirstNamed() {
    SevenEights x = new SevenEights();
    due("odds: BAD, NONE", x.odds(0, 0), BAD);
    due("odds: BAD, NONE", x.odds(9, 2), BAD);
    due("hardest: BAD, NONE", x.hardest(10), BAD);
    due("item: BAD, NONE", x.item(0, 3), BAD);
    for (int i = 0; i < 25; i++) x.feed(0, 8);
    due("feed: BAD, FULL", x.feed(0, 9), BAD);
    due("feed: BAD, FULL", x.feed(0, 0), BAD);
    due("feed: FULL", x.feed(0, 1), FULL);
    for (int i = 0; i < 4; i++) x.learner(PARROT, 0);
    due("learner: BAD, FULL", x.learner(6, 0), BAD);
    due("learner: BAD, FULL", x.learner(0, -1), BAD);
    due("learner: FULL", x.learner(5, 40), FULL);
    allFirm(x, 0, 100);
    due("draw: BAD, NONE", x.draw(0, 0), BAD);
    due("draws: BAD, NONE", x.draws(0, 1, 2), BAD);
    due("sheet: BAD, -14", x.sheet(4, 0, -1), BAD);
    due("sheet: BAD, -14", x.sheet(0, 4, -1), BAD);
    due("put: BAD, -11", x.put(4, 0, 0), BAD);
    due("put: -11, -12", x.put(0, -1, 0), NOTHING);
    due("number: BAD, -11", x.number(0, 4, 0), BAD);
    due("number: -11, -12", x.number(0, 0, -1), NOTHING);
    due("taken: BAD, -11", x.taken(0, 6), BAD);
    due("firms: BAD, -11", x.firms(0, 0, 0, 35, 2), BAD);
    due("firms: BAD, -11", x.firms(0, 0, 4, 0, 1), BAD);
    due("firms: -11, -12", x.firms(0, -1, 0, 0, 1), NOTHING);
    x.sheet(0, SHORT, 1);
    due("number: BAD, -13, -12", x.number(0, -1, 1), BAD);
    due("number: -13, -12", x.number(0, BYTE, 1), OTHER_SORT);
    due("number: -12", x.number(0, SHORT, 1), OUTSIDE);
    due("firms: BAD, -13, -12", x.firms(0, 5, 0, 36, 1), BAD);
    due("firms: -13, -12", x.firms(0, 5, 0, 0, 1), OTHER_SORT);
    x.shelf(0, 1, 0);
    due("taken: BAD, -13", x.taken(0, 14), BAD);
  }

  // ---- SHELVES

  @Sentence(value = "SHELVES 0 to 3 hold ... nothing (at first)", promises = {1, 39, 40, 41})
  private static void shelvesHoldNothingAtFirst() {
    SevenEights x = with(LEARNER, 0);
    for (int shelf = 0; shelf < 4; shelf++) {
      for (int as : new int[] {0, 5, 10, 13}) due("taken", x.taken(shelf, as), NOTHING);
      for (int act = 0; act < 4; act++) due("act", x.act(shelf, act, 5), 0);
    }
    range("shelf", s -> with(0, 0).shelf(s, 0, 0), 0, 3, BAD);
    range("taken", s -> with(0, 0).taken(s, 0), 0, 3, BAD);
    range("what", what -> with(0, 0).shelf(0, what, 0), 0, 2, BAD);
  }

  @Sentence(value = "A SHELF holds LEARNER n (what 0), the row of SHEET n (1; nothing, if missing), nothing (2): 1", promises = {39})
  private static void shelvesHoldOneThing() {
    SevenEights x = withNumber(3, SURE, 0);
    x.sheet(3, LONG, 40);
    x.sheet(1, BYTE, 0);
    range("learner", n -> x.shelf(0, 0, n), 0, 3, BAD);
    range("sheet", n -> x.shelf(0, 1, n), 0, 3, BAD);
    for (int n : new int[] {LOW, -1, 0, 4, HIGH}) {
      x.shelf(0, 0, 3);
      due("nothing, n " + n, x.shelf(0, 2, n), 1);
      due("it is", x.taken(0, SURE), NOTHING);
    }
    due("a LEARNER", x.shelf(0, 0, 3), 1);
    due("it is", x.taken(0, SURE), 3);
    due("a row", x.shelf(0, 1, 3), 1);
    due("it is", x.taken(0, 10 + LONG), 40);
    due("a row of none", x.shelf(0, 1, 1), 1);
    due("it is", x.taken(0, 10 + BYTE), 0);
    due("a missing one", x.shelf(0, 1, 0), 1);
    due("it is nothing", x.taken(0, 10 + BYTE), NOTHING);
    due("no LEARNERS", new SevenEights().shelf(0, 0, 0), BAD);
    due("the others hold nothing", x.taken(1, 0), NOTHING);
  }

  @Sentence(value = "the row of SHEET n", promises = {39, 40})
  private static void shelvesHoldTheRow() {
    SevenEights x = new SevenEights();
    x.sheet(0, SHORT, 7);
    x.shelf(0, 1, 0);
    x.sheet(0, LONG, 9);
    due("the row as it was", x.taken(0, 10 + SHORT), 7);
    x.sheet(0, -1, 0);
    due("the row as it was", x.taken(0, 10 + SHORT), 7);
  }

  @Sentence(value = "(by its number; nothing, if there is no such one any more)", promises = {39, 40, 41, 45})
  private static void shelvesHoldALearnerByItsNumber() {
    SevenEights x = with(COUNTER, 0);
    x.keep();
    x.learner(SURE, 7);
    x.shelf(0, 0, 0);
    x.shelf(1, 0, 1);
    due("sure", x.taken(1, SURE), 1);
    x.again();
    due("still there", x.taken(0, COUNTER), 0);
    due("not any more", x.taken(1, SURE), NOTHING);
    due("nor as a learner", x.taken(1, LEARNER), NOTHING);
    due("nor as a row", x.taken(1, 10), NOTHING);
    due("it does nothing", x.act(1, SAYS, 5), 0);
    due("no bodies", x.many(4), 0);
    x.learner(PARROT, 3);
    due("another one with that number", x.taken(1, PARROT), 1);
    due("says (5 and 1) times 3", x.act(1, SAYS, 5), 18);
  }

  @Sentence(value = "taken for a thing of KIND as (0 to 5, or one under it): its number", promises = {40})
  private static void takenForAKind() {
    boolean[][] is = {
      {true, false, false, false, false, false}, {true, true, false, false, false, false}, {true, false, true, false, false, false},
      {true, false, true, true, false, false}, {true, true, false, false, true, false}, {true, false, false, false, false, true}};
    for (int kind = 0; kind < 6; kind++) {
      SevenEights x = withNumber(3, kind, 0);
      x.shelf(3, 0, 3);
      for (int as = 0; as < 6; as++) due(kind + " as " + as, x.taken(3, as), is[kind][as] ? 3 : OTHER_SORT);
      for (int as = 10; as < 14; as++) due(kind + " as a row", x.taken(3, as), OTHER_SORT);
      for (int as : new int[] {LOW, -1, 6, 7, 8, 9, 14, 15, HIGH}) due("as " + as, x.taken(3, as), BAD);
    }
  }

  @Sentence(value = "for a row of sort as - 10 (as 10 to 13): how many items", promises = {40})
  private static void takenForARow() {
    for (int sort = 0; sort < 4; sort++) {
      for (int n : new int[] {0, 1, 40}) {
        SevenEights x = new SevenEights();
        x.sheet(0, sort, n);
        x.shelf(0, 1, 0);
        for (int as = 10; as < 14; as++) due(sort + " as " + as, x.taken(0, as), as - 10 == sort ? n : OTHER_SORT);
        for (int as = 0; as < 6; as++) due(sort + " as a thing", x.taken(0, as), OTHER_SORT);
        for (int as : new int[] {LOW, -1, 6, 9, 14, HIGH}) due("as " + as, x.taken(0, as), BAD);
      }
    }
  }

  // ---- ACTS

  /** An ACT of a LEARNER with number n on SHELF 0. */
  private static int acted(int kind, int n, int a, int act, int x) {
    SevenEights on = withNumber(n, kind, a);
    on.shelf(0, 0, n);
    return on.act(0, act, x);
  }

  @Sentence(value = "ACTS of things, with a number x (ints that wrap)", promises = {41})
  private static void actsWrapAround() {
    int half = 1 << 30;
    due("x + n", acted(LEARNER, 1, 0, SAYS, HIGH), LOW);
    due("x + n", acted(LEARNER, 3, 0, SAYS, HIGH), LOW + 2);
    due("says * 2", acted(LEARNER, 0, 0, LEARNS, half), LOW);
    due("says * 2", acted(LEARNER, 0, 0, LEARNS, HIGH), -2);
    due("says * 2", acted(LEARNER, 0, 0, LEARNS, LOW), 0);
    due("learns ^ a", acted(LEARNER, 0, 40, TELLS, half), LOW + 40);
    due("learns - a", acted(COUNTER, 0, 1, LEARNS, half), HIGH);
    due("learns - a", acted(COUNTER, 0, 40, LEARNS, half), HIGH - 39);
    due("says * 3", acted(PARROT, 0, 0, SAYS, HIGH), HIGH - 2);
    due("says * 3", acted(PARROT, 0, 0, SAYS, LOW), LOW);
    due("0 - says", acted(AFRAID, 0, 0, SAYS, LOW), LOW);
    // -LOW is LOW: LOW * 2 is 0; says(n) is -3 * (1 + 1) with n 1
    due("learns + says", acted(AFRAID, 1, 0, LEARNS, LOW - 1), -6);
    due("x + 2", acted(SURE, 0, 1, SHARES, HIGH), LOW);
    due("x + 2", acted(SURE, 0, 1, SHARES, HIGH - 1), LOW + 1);
    due("says - n", acted(SURE, 3, 0, SAYS, HIGH), HIGH);
    due("tells * 2", acted(GUESSER, 0, 0, TELLS, half), 0);
    due("tells * 2", acted(GUESSER, 0, 0, TELLS, half >> 1), LOW);
    due("shares + says", acted(GUESSER, 0, 1, SHARES, HIGH), LOW);
    // LOW * 3 * 2 is 0, ^ 2 is 2; 1 by 1
    due("tells + shares", acted(PARROT, 1, 2, TELLS, HIGH), 3);
  }

  @Sentence(value = "x by (a - n), the rest away", promises = {41})
  private static void sharesCutTowardsZero() {
    // n, a, x, shared
    int[][] shares = {{0, 3, 7, 2}, {0, 3, -7, -2}, {0, 3, 2, 0}, {0, 3, -2, 0}, {3, 0, 7, -2}, {3, 0, -7, 2}, {0, 1, LOW, LOW},
      {0, 1, HIGH, HIGH}, {1, 0, LOW, LOW}, {1, 0, HIGH, -HIGH}, {0, 40, HIGH, 53687091}, {0, 40, LOW, -53687091}, {3, 1, 5, -2},
      {3, 1, LOW, 1 << 30}};
    for (int[] share : shares) {
      due("learner " + share[2], acted(LEARNER, share[0], share[1], SHARES, share[2]), share[3]);
      due("counter " + share[2], acted(COUNTER, share[0], share[1], SHARES, share[2]), share[3]);
    }
  }

  @Sentence(value = "-15 if these are the same; that is all that act() answers then", promises = {41})
  private static void partedByZero() {
    for (int n = 0; n < 4; n++) {
      for (int a = 0; a < 6; a++) {
        for (int kind = 0; kind < 6; kind++) {
          boolean isParted = a == n;
          due("shares", acted(kind, n, a, SHARES, 1000) == PARTED_BY_0 ? 1 : 0, isParted ? 1 : 0);
          boolean tellsShares = kind == PARROT || kind == AFRAID;
          due("tells", acted(kind, n, a, TELLS, 1000) == PARTED_BY_0 ? 1 : 0, isParted && tellsShares ? 1 : 0);
          if (isParted) due("tells of x 0", acted(kind, n, a, TELLS, 0) == PARTED_BY_0 ? 1 : 0, tellsShares ? 1 : 0);
        }
      }
    }
    due("0 by 0", acted(LEARNER, 0, 0, SHARES, 0), PARTED_BY_0);
    due("-15 that was said", acted(LEARNER, 0, 0, SAYS, -15), -15);
  }

  @Sentence(value = "0, and no TRACE then: no such SHELF, act, nothing, a row", promises = {41, 42, 43})
  private static void noActNoTrace() {
    int[][] wrongs = {{-1, 0}, {4, 0}, {LOW, 0}, {HIGH, 0}, {0, -1}, {0, 4}, {0, LOW}, {0, HIGH}, {1, 0}, {2, 0}, {2, 3}};
    for (int[] call : wrongs) {
      SevenEights x = with(LEARNER, 9);
      x.sheet(0, BYTE, 3);
      x.shelf(0, 0, 0);
      x.shelf(2, 1, 0);
      due("says", x.act(0, TELLS, 7), 7 * 2 ^ 9);
      due("three bodies", x.many(4), 3);
      due("act", x.act(call[0], call[1], 7), 0);
      due("no bodies", x.many(4), 0);
      due("no first", x.trace(0), NONE);
    }
    SevenEights x = withNumber(3, LEARNER, 9);
    for (int shelf = 0; shelf < 4; shelf++) x.shelf(shelf, 0, 3);
    for (int shelf = 0; shelf < 4; shelf++) {
      int on = shelf;
      range("act", act -> x.act(on, act, 7), 0, 3, 0);
    }
    range("shelf", shelf -> x.act(shelf, SAYS, 7), 0, 3, 0);
  }

  @Sentence(value = "THE TRACE's i-th body. NONE", promises = {42})
  private static void traceUpToTheLast() {
    SevenEights x = withNumber(1, AFRAID, 4);
    for (int i : new int[] {0, -1, 1, LOW, HIGH}) due("none at first", x.trace(i), NONE);
    due("none at first", x.many(4), 0);
    x.shelf(0, 0, 1);
    x.act(0, TELLS, 7);
    // the most that any KIND runs
    due("bodies", x.many(4), 11);
    range("trace", x::trace, 0, 10, NONE);
    int[] bodies = {31, 13, 41, 11, 40, 30, 10, 40, 30, 10, 12};
    for (int i = 0; i < 11; i++) due("body " + i, x.trace(i), bodies[i]);
    x.act(0, SHARES, 7);
    due("of the latest alone", x.many(4), 1);
    due("12", x.trace(0), 12);
    due("no more", x.trace(1), NONE);
  }

  @Sentence(value = "numbers of the bodies that ran in the latest act(), as they began", promises = {41, 42})
  private static void traceOfAPartingByZero() {
    SevenEights x = with(AFRAID, 0);
    x.shelf(0, 0, 0);
    due("parted by 0", x.act(0, TELLS, 7), PARTED_BY_0);
    int[] bodies = {31, 13, 41, 11, 40, 30, 10, 40, 30, 10, 12};
    due("those that began", x.many(4), 11);
    for (int i = 0; i < 11; i++) due("body " + i, x.trace(i), bodies[i]);
    x = with(GUESSER, 0);
    x.shelf(0, 0, 0);
    due("parted by 0", x.act(0, SHARES, 7), PARTED_BY_0);
    due("says didn't begin", x.many(4), 2);
    due("61", x.trace(0), 61);
    due("12", x.trace(1), 12);
    due("the next act is its own", x.act(0, LEARNS, 7), 14);
    due("with bodies of its own", x.many(4), 2);
    due("11", x.trace(0), 11);
    due("10", x.trace(1), 10);
  }

  // ---- many, and what is kept

  @Sentence(value = "No LEARNERS, an empty LESSON; nothing is kept", promises = {1, 43, 45})
  private static void aNewObject() {
    SevenEights x = new SevenEights();
    for (int what = 0; what < 5; what++) due("many " + what, x.many(what), 0);
    for (int n : new int[] {0, -1, 1, LOW, HIGH}) due("no LEARNER", x.learnerOf(n, 0), BAD);
    due("no ITEM", x.item(0, 0), NONE);
    due("again", x.again(), NONE);
    SevenEights other = with(LEARNER, 0);
    other.keep();
    due("each object is its own", x.many(0), 0);
    due("and keeps its own", x.again(), NONE);
  }

  @Sentence(value = "How many: what = 0 LEARNERS ... BAD: another what", promises = {43})
  private static void manyByWhat() {
    SevenEights x = new SevenEights();
    range("what", x::many, 0, 4, BAD);
    for (int n = 0; n < 4; n++) x.learner(LEARNER, 1);
    read(x, "ask 2 2 in 1;".repeat(11) + "rest 1;");
    x.prove(0);
    for (int i = 0; i < 25; i++) x.feed(0, 8);
    x.shelf(0, 0, 0);
    x.act(0, LEARNS, 1);
    int[] want = {4, 12, 11, 200, 2};
    for (int what = 0; what < 5; what++) due("many " + what, x.many(what), want[what]);
  }

  @Sentence(value = "NONE: nothing is kept", promises = {45})
  private static void nothingIsKept() {
    SevenEights x = with(LEARNER, 0);
    x.nights(3);
    due("again", x.again(), NONE);
    due("the DAY", x.day(), 3);
    due("LEARNERS", x.many(0), 1);
    due("keep", x.keep(), 1);
    due("now something is", x.again(), 1);
  }

  @Sentence(value = "It becomes what was kept latest (which stays): how many LEARNERS", promises = {44, 45})
  private static void keptLatest() {
    SevenEights x = new SevenEights();
    for (int n = 0; n <= 4; n++) {
      due("keep", x.keep(), 1);
      x.nights(1);
      due("again", x.again(), n);
      x.nights(2);
      due("it stays", x.again(), n);
      due("the DAY then", x.day(), 0);
      due("LEARNERS then", x.many(0), n);
      due("one more", x.learner(n, n), n < 4 ? n : FULL);
    }
    due("the latest", x.again(), 4);
    x.firm(3, 35, 1);
    x.keep();
    x.firm(3, 35, 2);
    x.again();
    due("kept by another keep()", x.head(3, 35, 0), 1);
  }

  @Sentence(value = "It becomes what was kept latest ... 4 at most", promises = {4, 45})
  private static void roomForLearnersAgain() {
    SevenEights x = with(COUNTER, 1);
    x.keep();
    for (int n = 1; n < 4; n++) x.learner(SURE, n);
    x.firm(3, 0, 3);
    x.rights(3, 0, 3);
    x.ask(3, 0, 9);
    due("full", x.learner(0, 0), FULL);
    due("one", x.again(), 1);
    for (int n = 1; n < 4; n++) due("room again", x.learner(PARROT, 40 - n), n);
    due("full again", x.learner(0, 0), FULL);
    due("KIND", x.learnerOf(3, 0), PARROT);
    due("A", x.learnerOf(3, 1), 37);
    int[] atFirst = {80, 0, -9, 1, 0};
    for (int what = 0; what < 5; what++) due("a head at first", x.head(3, 0, what), atFirst[what]);
  }

  @Sentence(value = "All but THE TAPE, ROWS, SHEETS, SHELVES, THE TRACE is kept", promises = {44, 45})
  private static void whatIsKept() {
    SevenEights x = with(GUESSER, 4);
    read(x, "ask 7 8 in 9;rest 2;");
    x.give(0);
    x.set(FORGET, 1);
    x.set(FLOOR, 2);
    x.set(SLIP, 3);
    x.seed(LOW);
    x.firm(0, 35, 100);
    x.rights(0, 35, 9);
    x.keep();
    read(x, "rest 9;");
    x.give(0);
    x.set(FORGET, 50);
    x.set(FLOOR, 100);
    x.set(SLIP, 100);
    x.seed(HIGH);
    allFirm(x, 0, 0);
    x.rights(0, 35, 0);
    x.ask(0, 31, 1);
    x.learner(SURE, 40);
    due("LEARNERS", x.again(), 1);
    due("the DAY", x.day(), 2);
    due("LESSON", x.many(1), 2);
    due("its first", x.item(0, 1), 31);
    due("FORGET", x.set(FORGET, 0), 1);
    due("FLOOR", x.set(FLOOR, 0), 2);
    due("SLIP", x.set(SLIP, 0), 3);
    due("z", x.seed(0), LOW);
    dueHead(x, 35, 100, 9, -9);
    // 32, by 7 7: 50; with RIGHTS 1 less 2, then less 2
    dueHead(x, 31, 46, 1, 0);
    due("KIND", x.learnerOf(0, 0), GUESSER);
    due("A", x.learnerOf(0, 1), 4);
  }

  @Sentence(value = "All but THE TAPE, ROWS, SHEETS, SHELVES, THE TRACE", promises = {44, 45})
  private static void whatIsNotKept() {
    SevenEights x = with(LEARNER, 9);
    read(x, "ask 2 2 in 9;");
    x.keep();
    x.feed(0x203b312074736572L, 8);
    x.prove(0);
    x.alterRow(0, 1, 77);
    x.sheet(1, INT, 4);
    x.put(1, 3, LOW);
    x.shelf(0, 0, 0);
    x.shelf(1, 1, 1);
    x.act(0, LEARNS, 1);
    due("again", x.again(), 1);
    due("bytes", x.many(3), 8);
    due("ROWS", x.row(0, 1), 77);
    due("a SHEET", x.number(1, INT, 3), LOW);
    due("a LEARNER on a SHELF", x.taken(0, LEARNER), 0);
    due("a row on a SHELF", x.taken(1, 10 + INT), 4);
    due("THE TRACE", x.many(4), 2);
    due("a body", x.trace(1), 10);
    due("THE TAPE", x.lesson(), 1);
  }
}
