/** A LESSON given, drawn, proved and judged: each sentence that names a boundary. */
public final class LessonBoundariesTest extends TestBase {
  private static final int TO_MINUS_1 = 230538014;

  public static void main(String[] args) throws Exception {
    runSentences(LessonBoundariesTest.class);
  }

  // ---- GIVEN

  @Sentence(value = "an empty LESSON", promises = {1, 27, 31, 34})
  private static void anEmptyLesson() {
    SevenEights x = with(LEARNER, 0);
    due("ITEMS", x.many(1), 0);
    due("give", x.give(0), 0);
    due("prove", x.prove(0), 0);
    due("judge", x.judge(0), 0);
    due("the DAY", x.day(), 0);
    due("not asked", x.head(0, 0, 2), -9);
  }

  @Sentence(value = "THE LESSON is GIVEN: how many asks were answered by the product", promises = {27})
  private static void howManyByTheProduct() {
    SevenEights x = blank(LEARNER, 0);
    x.firm(0, 30, 100);
    // at once; by a way; by a slip; nothing
    due("four", read(x, "ask 7 7 in 1;ask 7 8 in 3;ask 6 7 in 2;ask 2 2 in 9;"), 4);
    due("two", x.give(0), 2);
    dueHead(x, 30, 100, 1, 0);
    dueHead(x, 31, 26, 1, 0);
    dueHead(x, 27, 0, 0, 0);
    dueHead(x, 0, 0, 0, 0);
    read(x, "ask 2 2 in 9;".repeat(12));
    due("none of twelve", x.give(0), 0);
    x.firm(0, 0, 100);
    due("all twelve", x.give(0), 12);
    due("RIGHTS once a DAY, and 0 was asked on it", x.head(0, 0, 1), 0);
    read(x, "tell 2 2;rest 1;");
    due("no asks", x.give(0), 0);
  }

  @Sentence(value = "its ITEMS are done, one by one (nights for all)", promises = {27})
  private static void nightsForAll() {
    SevenEights x = with(PARROT, 0);
    x.learner(SURE, 5);
    x.rights(1, 0, 9);
    read(x, "rest 9;".repeat(12));
    due("no asks", x.give(0), 0);
    due("108 NIGHTS", x.day(), 108);
    due("80 down to 9", x.head(0, 0, 0), 9);
    // with RIGHTS 9 one in a hundred goes: 80 is below that
    due("RIGHTS hold", x.head(1, 0, 0), 80);
    due("the other one, too", x.head(1, 1, 0), 9);
    due("it stays", x.many(1), 12);
    due("again", x.give(1), 0);
    due("216 NIGHTS", x.day(), 216);
  }

  @Sentence(value = "one by one", promises = {27})
  private static void oneByOne() {
    SevenEights x = blank(PARROT, 0);
    x.set(FLOOR, 17);
    read(x, "ask 7 8 in 9;tell 7 8;ask 7 8 in 9;rest 1;ask 7 8 in 9;");
    // 0; told: 17; asked: 17 and 20 and 1; a NIGHT without RIGHTS, as it was asked this DAY: 35; asked
    due("told between", x.give(0), 2);
    dueHead(x, 31, 52, 1, 1);
  }

  // ---- ITEMS

  @Sentence(value = "Of ITEM i of THE LESSON ... NONE: there is no such one", promises = {28})
  private static void itemsUpToTheLast() {
    for (int many : new int[] {1, 2, 11, 12}) {
      SevenEights x = new SevenEights();
      read(x, "rest 9;".repeat(many));
      for (int what = 0; what < 3; what++) {
        int of = what;
        range("item of " + many, i -> x.item(i, of), 0, many - 1, NONE);
      }
    }
    SevenEights x = new SevenEights();
    for (int i : new int[] {0, -1, 1, LOW, HIGH}) due("of an empty LESSON", x.item(i, 0), NONE);
  }

  @Sentence(value = "what = 0 sort (0 ask, 1 tell, 2 rest), 1 the PAIR (rest: NIGHTS), 2 SECONDS (ask; else 0)", promises = {28})
  private static void itemsByWhat() {
    SevenEights x = new SevenEights();
    read(x, "ask 9 9 in 9;ask 2 2 in 1;tell 9 9;tell 2 2;rest 9;rest 1;");
    int[][] want = {{0, 35, 9}, {0, 0, 1}, {1, 35, 0}, {1, 0, 0}, {2, 9, 0}, {2, 1, 0}};
    for (int i = 0; i < 6; i++) {
      for (int what = 0; what < 3; what++) due("item " + i + " " + what, x.item(i, what), want[i][what]);
      int of = i;
      range("what", what -> x.item(of, what), 0, 2, BAD);
    }
  }

  // ---- DRAWN

  @Sentence(value = "z (an int; 1 at first)", promises = {29})
  private static void zIsAnyInt() {
    SevenEights x = new SevenEights();
    int was = 1;
    for (int v : new int[] {0, -1, HIGH, LOW, -3, 1}) {
      due("seed", x.seed(v), was);
      was = v;
    }
  }

  @Sentence(value = "becomes z * 1103515245 + 12345 ... (z >>> 16) modulo how many they are", promises = {29, 30})
  private static void zWrapsAround() {
    // z, z then, the place of 36
    int[][] steps = {{1, 1103527590, 26}, {0, 12345, 0}, {-1, -1103502900, 25}, {HIGH, 1043980748, 17}, {LOW, -2147471303, 8}};
    for (int[] step : steps) {
      SevenEights x = blank(PARROT, 0);
      x.seed(step[0]);
      due("draw by " + step[0], x.draw(0, 9), step[2]);
      due("z behind " + step[0], x.seed(0), step[1]);
    }
    SevenEights x = blank(PARROT, 0);
    x.seed(TO_MINUS_1);
    // 65535 modulo 36
    due("the greatest place", x.draw(0, 9), 15);
    due("z", x.seed(0), -1);
  }

  @Sentence(value = "of the PAIRS that a LEARNER doesn't know by t, by numbers, the one at place", promises = {30})
  private static void drawnOfFew() {
    for (int only = 0; only < 36; only += 7) {
      SevenEights x = with(PARROT, 0);
      allFirm(x, 0, 100);
      x.firm(0, only, 0);
      for (int k = 0; k < 3; k++) due("the only one", x.draw(0, 9), only);
    }
    SevenEights x = with(PARROT, 0);
    allFirm(x, 0, 100);
    x.firm(0, 3, 0);
    x.firm(0, 35, 85);
    // 9 9 is known in 2 seconds, not in 1; 16838 is even, 48697 odd
    x.seed(1);
    due("of two, in 1", x.draw(0, 1), 3);
    x.seed(-1);
    due("the other, in 1", x.draw(0, 1), 35);
    x.seed(-1);
    due("in 2 only one", x.draw(0, 2), 3);
  }

  @Sentence(value = "NONE: all are KNOWN", promises = {30})
  private static void drawnOfNone() {
    SevenEights x = with(PARROT, 0);
    allFirm(x, 0, 85);
    x.seed(5);
    due("in 2 all are", x.draw(0, 2), NONE);
    due("z stays", x.seed(5), 5);
    due("in 1 none is", x.draw(0, 1), ((5 * 1103515245 + 12345) >>> 16) % 36);
  }

  // ---- ROWS

  @Sentence(value = "ROWS of a LESSON for a LEARNER: (PAIR, what would be said, seconds) of each ask", promises = {31, 32, 43})
  private static void rowsOfEachAsk() {
    SevenEights x = blank(PARROT, 0);
    due("none at first", x.many(2), 0);
    read(x, "ask 9 9 in 9;".repeat(12));
    due("twelve", x.prove(0), 12);
    for (int i = 0; i < 12; i++) {
      due("PAIR", x.row(i, 0), 35);
      due("nothing is said", x.row(i, 1), -9);
      due("in all seconds", x.row(i, 2), 9);
    }
    read(x, "tell 9 9;rest 1;".repeat(6));
    due("no ask", x.prove(0), 0);
    due("no ROWS", x.many(2), 0);
    due("nor the old ones", x.row(0, 0), -99);
    read(x, "tell 9 9;rest 1;ask 2 2 in 1;");
    due("one ask behind others", x.prove(0), 1);
    due("ROW 0", x.row(0, 0), 0);
    due("no ROW 1", x.row(1, 0), -99);
  }

  @Sentence(value = "if it were GIVEN now (nothing changes)", promises = {31})
  private static void nothingChangesByProof() {
    SevenEights x = with(GUESSER, 0);
    x.learner(LEARNER, 0);
    // a slip on 7 7; 31, told: 43; a NIGHT: 39; by 7 7, 55: 4 seconds and 2; then 55
    read(x, "ask 7 8 in 1;tell 7 8;rest 1;ask 7 8 in 9;ask 7 8 in 9;");
    int sum = x.learnerOf(0, 2);
    due("three", x.prove(0), 3);
    int[][] want = {{31, 49, 1}, {31, 56, 6}, {31, 56, 4}};
    dueRows(x, want);
    due("the DAY", x.day(), 0);
    dueHead(x, 31, 32, 0, -9);
    dueHead(x, 30, 60, 0, -9);
    due("all FIRM", x.learnerOf(0, 2), sum);
    due("all FIRM of the other", x.learnerOf(1, 2), sum);
    due("the same again", x.judge(0), 0);
    due("as it is when given", x.give(0), 2);
    due("from then on the second is another", x.judge(0), 2);
  }

  @Sentence(value = "what would be said, seconds ... if it were GIVEN now", promises = {31, 32, 34})
  private static void rowsOfOneWithA() {
    SevenEights x = blank(SURE, 40);
    x.learner(AFRAID, 40);
    allFirm(x, 1, 40);
    read(x, "ask 7 8 in 5;rest 9;ask 7 8 in 9;tell 2 2;ask 2 2 in 2;");
    due("sure", x.prove(0), 3);
    // felt are 40: 5 seconds; then 26, behind 9 NIGHTS with RIGHTS 1 19, felt 59: 3; told 17, felt 57: 3, so a slip
    int[][] sure = {{31, 56, 5}, {31, 56, 3}, {0, 6, 2}};
    dueRows(x, sure);
    due("afraid", x.prove(1), 3);
    // 40: 5 seconds; then 56, behind 9 NIGHTS with RIGHTS 1 38, and 18 next door: nothing; less 40 in 2: nothing
    int[][] afraid = {{31, 56, 5}, {31, -9, 9}, {0, -9, 2}};
    dueRows(x, afraid);
  }

  private static void dueRows(SevenEights x, int[][] rows) {
    for (int i = 0; i < rows.length; i++) {
      for (int what = 0; what < 3; what++) due("row " + i + " " + what, x.row(i, what), rows[i][what]);
    }
  }

  @Sentence(value = "Of ROW i ... -99: there is none such, another what", promises = {32})
  private static void rowsUpToTheLast() {
    for (int many : new int[] {1, 11, 12}) {
      SevenEights x = with(LEARNER, 0);
      read(x, "ask 2 2 in 9;".repeat(many));
      x.prove(0);
      range("row of " + many, i -> x.row(i, 0), 0, many - 1, -99);
      range("what", what -> x.row(many - 1, what), 0, 2, -99);
    }
    SevenEights x = new SevenEights();
    for (int i : new int[] {0, -1, 1, LOW, HIGH}) due("no ROWS", x.row(i, 0), -99);
  }

  @Sentence(value = "It becomes v: what it was. -99 likewise", promises = {33})
  private static void alteredUpToTheLast() {
    SevenEights x = with(LEARNER, 0);
    for (int i : new int[] {0, -1, 1, LOW, HIGH}) due("no ROWS", x.alterRow(i, 0, 5), -99);
    read(x, "ask 2 2 in 9;ask 2 3 in 9;");
    x.prove(0);
    range("i", i -> x.alterRow(i, 1, 5), 0, 1, -99);
    range("what", what -> x.alterRow(1, what, 5), 0, 2, -99);
    int was = 5;
    for (int v : new int[] {LOW, HIGH, 0, -1, -99, 7}) {
      due("was", x.alterRow(1, 2, v), was);
      due("is", x.row(1, 2), v);
      was = v;
    }
    due("the others are as they were", x.row(0, 0), 0);
  }

  @Sentence(value = "0 all is right; else the first ROW that isn't, and 1 more", promises = {34})
  private static void judgedRowByRow() {
    SevenEights x = with(LEARNER, 0);
    read(x, "ask 2 2 in 9;".repeat(12));
    x.prove(0);
    due("all is right", x.judge(0), 0);
    for (int i = 11; i >= 0; i--) {
      int what = i % 3;
      x.alterRow(i, what, x.row(i, what) + 1);
      due("the first that isn't", x.judge(0), i + 1);
    }
    for (int i = 0; i < 12; i++) {
      due("the first that isn't yet", x.judge(0), i + 1);
      x.alterRow(i, i % 3, x.row(i, i % 3) - 1);
    }
    due("all is right again", x.judge(0), 0);
  }

  @Sentence(value = "if all are, but there are fewer: 222", promises = {34})
  private static void judgedFewer() {
    SevenEights x = with(LEARNER, 0);
    read(x, "ask 2 2 in 9;");
    due("none where one must be", x.judge(0), 222);
    x.prove(0);
    read(x, "ask 2 2 in 9;ask 2 2 in 9;");
    due("one where two must be", x.judge(0), 222);
    x.alterRow(0, 0, 1);
    due("and that isn't right", x.judge(0), 1);
    x.prove(0);
    read(x, "ask 2 2 in 9;");
    due("two where one must be", x.judge(0), 2);
    x.lesson();
    due("two where none must be", x.judge(0), 1);
    x.prove(0);
    due("none where none must be", x.judge(0), 0);
  }

  @Sentence(value = "THE READER takes ROWS as those of a LEARNER", promises = {34})
  private static void judgedAsThoseOfAnother() {
    SevenEights x = with(LEARNER, 0);
    x.learner(LEARNER, 0);
    read(x, "ask 2 2 in 9;ask 7 8 in 1;");
    x.prove(0);
    due("another one like it", x.judge(1), 0);
    x.firm(1, 30, 0);
    // 7 8 slips on 8 8 then
    due("who slips on another", x.judge(1), 2);
    due("the one of the ROWS", x.judge(0), 0);
    due("ROWS stay", x.many(2), 2);
  }
}
