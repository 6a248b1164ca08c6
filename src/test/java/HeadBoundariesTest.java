/** PAIRS, LEARNERS, what they say and what is known: each sentence of the Terms that names a boundary. */
public final class HeadBoundariesTest extends TestBase {
  public static void main(String[] args) throws Exception {
    runSentences(HeadBoundariesTest.class);
  }

  // ---- pairs

  @Sentence(value = "by a, then by b (0: 2 and 2; 7: 2 and 9; 8: 3 and 3; 35: 9 and 9)", promises = {6, 7})
  private static void pairsByAThenByB() {
    SevenEights x = new SevenEights();
    int[][] ends = {{0, 2, 2}, {7, 2, 9}, {8, 3, 3}, {14, 3, 9}, {15, 4, 4}, {20, 4, 9}, {21, 5, 5}, {25, 5, 9},
      {26, 6, 6}, {29, 6, 9}, {30, 7, 7}, {32, 7, 9}, {33, 8, 8}, {34, 8, 9}, {35, 9, 9}};
    for (int[] end : ends) {
      due("pair", x.pair(end[1], end[2]), end[0]);
      due("in the other order", x.pair(end[2], end[1]), end[0]);
      due("a of " + end[0], x.pairOf(end[0], 0), end[1]);
      due("b of " + end[0], x.pairOf(end[0], 1), end[2]);
      due("product of " + end[0], x.pairOf(end[0], 2), end[1] * end[2]);
    }
  }

  @Sentence(value = "TIED to one are those with a less 1, a and 1 more, b less 1, b and 1 more", promises = {8})
  private static void tiedAreThoseNextDoor() {
    for (int p = 0; p < 36; p++) {
      SevenEights x = new SevenEights();
      long tied = x.tied(p);
      for (int q = 0; q < 36; q++) {
        int steps = Math.abs(x.pairOf(p, 0) - x.pairOf(q, 0)) + Math.abs(x.pairOf(p, 1) - x.pairOf(q, 1));
        due(q + " tied to " + p, tied >>> q & 1, steps == 1 ? 1 : 0);
      }
      due("none beyond the last for " + p, tied >>> 36, 0);
    }
  }

  @Sentence(value = "as far as there are such", promises = {8})
  private static void tiedAtTheEdges() {
    SevenEights x = new SevenEights();
    due("2 2: only 2 3", x.tied(0), setOf(1));
    due("2 9: 3 9, 2 8", x.tied(7), setOf(14, 6));
    due("2 5: 3 5, 2 4, 2 6", x.tied(3), setOf(10, 2, 4));
    due("5 9: 4 9, 6 9, 5 8", x.tied(25), setOf(20, 29, 24));
    due("9 9: only 8 9", x.tied(35), setOf(34));
  }

  @Sentence(value = "the lesser number first then ... each once, not it itself", promises = {8})
  private static void tiedOfTwins() {
    SevenEights x = new SevenEights();
    due("5 5: 4 5 and 5 6, each once", x.tied(21), setOf(16, 22));
    due("8 8: 7 8 and 8 9, each once", x.tied(33), setOf(31, 34));
    due("5 6: 4 6, 6 6, 5 5, 5 7", x.tied(22), setOf(17, 26, 21, 23));
    for (int p = 0; p < 36; p++) due("not it itself: " + p, x.tied(p) >>> p & 1, 0);
  }

  @Sentence(value = "Sets of PAIRS are told by bits of longs", promises = {8, 20, 21})
  private static void setsBeyondTheBitsOfAnInt() {
    SevenEights x = blank(PARROT, 0);
    due("8 8 is tied to 7 8, bit 31, and 8 9, bit 34", x.tied(33), 2147483648L + 17179869184L);
    x.firm(0, 31, 100);
    due("31 alone", x.known(0, 9), 2147483648L);
    due("all but 31", x.friday(0, 0, 9), 68719476735L - 2147483648L);
    x.firm(0, 31, 0);
    x.firm(0, 35, 100);
    due("35 alone", x.known(0, 9), 34359738368L);
    x.firm(0, 35, 0);
    x.firm(0, 0, 100);
    due("0 alone", x.known(0, 9), 1);
    due("all but 0", x.friday(0, 0, 9), 68719476734L);
  }

  // ---- FIRM at first

  @Sentence(value = "FIRM at first: 80 if a is 2", promises = {7, 9})
  private static void firmAtFirstOfTwos() {
    SevenEights x = with(LEARNER, 0);
    for (int p = 0; p <= 7; p++) {
      due("2 and more, 2 2 and 2 5 too", x.pairOf(p, 3), 80);
      due("in a head", x.head(0, p, 0), 80);
    }
    due("3 3 is the first that isn't", x.pairOf(8, 3), 60);
  }

  @Sentence(value = "else 70 if a or b is 5", promises = {7, 9})
  private static void firmAtFirstOfFives() {
    SevenEights x = with(LEARNER, 0);
    for (int p : new int[] {10, 16, 21, 22, 23, 24, 25}) {
      due("with a 5, 5 5 too", x.pairOf(p, 3), 70);
      due("in a head", x.head(0, p, 0), 70);
    }
    due("4 4", x.pairOf(15, 3), 60);
    due("4 6", x.pairOf(17, 3), 48);
  }

  @Sentence(value = "else 60 if a is b", promises = {7, 9})
  private static void firmAtFirstOfTwins() {
    SevenEights x = with(LEARNER, 0);
    for (int p : new int[] {8, 15, 26, 30, 33, 35}) {
      due("twins", x.pairOf(p, 3), 60);
      due("in a head", x.head(0, p, 0), 60);
    }
  }

  @Sentence(value = "else 60 less a times b by 2 ... Quotients are cut towards 0", promises = {7, 9})
  private static void firmAtFirstOfTheOthers() {
    SevenEights x = with(LEARNER, 0);
    int[][] others = {{9, 54}, {11, 51}, {12, 50}, {13, 48}, {14, 47}, {17, 48}, {18, 46}, {19, 44}, {20, 42},
      {27, 39}, {28, 36}, {29, 33}, {31, 32}, {32, 29}, {34, 24}};
    for (int[] other : others) {
      due("pairOf " + other[0], x.pairOf(other[0], 3), other[1]);
      due("head " + other[0], x.head(0, other[0], 0), other[1]);
    }
  }

  // ---- LEARNERS

  @Sentence(value = "LEARNERS, 4 at most, numbered as they come", promises = {4, 43})
  private static void fourLearnersAtMost() {
    SevenEights x = new SevenEights();
    for (int n = 0; n < 4; n++) {
      due("none of that number yet", x.learnerOf(n, 0), BAD);
      due("number", x.learner(n, n), n);
      due("how many", x.many(0), n + 1);
      due("that number now", x.learnerOf(n, 1), n);
    }
    due("a fifth", x.learner(0, 0), FULL);
    due("4 of them", x.many(0), 4);
    due("none with number 4", x.learnerOf(4, 0), BAD);
  }

  @Sentence(value = "RIGHTS (0 to 9; 0 at first), LATEST ... (none at first)", promises = {9})
  private static void headsAtFirst() {
    SevenEights x = with(LEARNER, 0);
    x.nights(3);
    x.learner(SURE, 40);
    for (int p = 0; p < 36; p++) {
      due("RIGHTS", x.head(1, p, 1), 0);
      due("LATEST", x.head(1, p, 2), -9);
      due("BOX", x.head(1, p, 3), 1);
      due("DUE", x.head(1, p, 4), 0);
    }
  }

  @Sentence(value = "LEARNERS ... In the head of each", promises = {9, 10, 11})
  private static void headsOfTheirOwn() {
    SevenEights x = with(LEARNER, 0);
    x.learner(LEARNER, 0);
    x.firm(0, 9, 1);
    x.rights(0, 9, 2);
    x.ask(0, 9, 1);
    due("FIRM of the other", x.head(1, 9, 0), 54);
    due("RIGHTS of the other", x.head(1, 9, 1), 0);
    due("LATEST of the other", x.head(1, 9, 2), -9);
  }

  @Sentence(value = "LAWS: 0 FORGET (0 to 50; 10 at first), 1 FLOOR (0 to 100; 40), 2 SLIP (0 to 100; 30)", promises = {12})
  private static void lawsFromLeastToMost() {
    SevenEights x = new SevenEights();
    int[] most = {50, 100, 100}, atFirst = {10, 40, 30};
    for (int law = 0; law < 3; law++) {
      due("one above", x.set(law, most[law] + 1), BAD);
      due("one below", x.set(law, -1), BAD);
      due("at first, and the most", x.set(law, most[law]), atFirst[law]);
      due("the least", x.set(law, 0), most[law]);
      due("it was taken", x.set(law, 1), 0);
    }
    due("each is its own", x.set(0, 2), 1);
    due("each is its own", x.set(1, 2), 1);
    due("each is its own", x.set(2, 2), 1);
  }

  @Sentence(value = "The DAY is 0 at first", promises = {13})
  private static void dayAtFirst() {
    due("day", new SevenEights().day(), 0);
    due("no NIGHT", new SevenEights().nights(0), 0);
  }

  // ---- FEEL and TAKES

  @Sentence(value = "FEEL of a PAIR: learner, counter, parrot, guesser: FIRM", promises = {14})
  private static void feelIsFirm() {
    for (int kind : new int[] {LEARNER, COUNTER, PARROT, GUESSER}) {
      SevenEights x = with(kind, 40);
      for (int v : new int[] {0, 1, 39, 40, 41, 99, 100}) {
        x.firm(0, 35, v);
        for (int t = 1; t <= 9; t++) due("KIND " + kind + " in " + t, x.feel(0, 35, t), v);
      }
    }
  }

  @Sentence(value = "afraid: as parrot, less A (0 at least)", promises = {14})
  private static void afraidFeelsLess() {
    SevenEights x = with(AFRAID, 40);
    int[][] feels = {{100, 60}, {41, 1}, {40, 0}, {39, 0}, {0, 0}};
    for (int[] feel : feels) {
      x.firm(0, 35, feel[0]);
      due("A 40, FIRM " + feel[0], x.feel(0, 35, 1), feel[1]);
    }
    SevenEights bold = with(AFRAID, 0);
    bold.firm(0, 35, 7);
    due("A 0", bold.feel(0, 35, 1), 7);
  }

  @Sentence(value = "if t is below 3", promises = {14})
  private static void afraidBelowThree() {
    SevenEights x = with(AFRAID, 15);
    x.firm(0, 0, 50);
    due("1", x.feel(0, 0, 1), 35);
    due("2", x.feel(0, 0, 2), 35);
    due("3", x.feel(0, 0, 3), 50);
    due("9", x.feel(0, 0, 9), 50);
  }

  @Sentence(value = "sure: as counter, and A, 100 at most", promises = {14})
  private static void sureFeelsMore() {
    SevenEights x = with(SURE, 40);
    int[][] feels = {{0, 40}, {59, 99}, {60, 100}, {61, 100}, {100, 100}};
    for (int[] feel : feels) {
      x.firm(0, 35, feel[0]);
      due("FIRM " + feel[0] + " in 1", x.feel(0, 35, 1), feel[1]);
      due("FIRM " + feel[0] + " in 9", x.feel(0, 35, 9), feel[1]);
    }
    SevenEights shy = with(SURE, 0);
    shy.firm(0, 35, 7);
    due("A 0", shy.feel(0, 35, 1), 7);
  }

  @Sentence(value = "TAKES: 1, and (100 less FEEL) by 15", promises = {15})
  private static void takesByFeel() {
    SevenEights x = with(PARROT, 0);
    x.set(FLOOR, 0);
    int[][] takes = {{100, 1}, {86, 1}, {85, 2}, {71, 2}, {70, 3}, {56, 3}, {55, 4}, {41, 4}, {40, 5}, {26, 5},
      {25, 6}, {11, 6}, {10, 7}, {0, 7}};
    for (int[] take : takes) {
      x.firm(0, 20, take[0]);
      dueWould(x, 20, 9, 36, 0, take[1], -9);
    }
  }

  // ---- AT ONCE

  @Sentence(value = "AT ONCE: FEEL is FLOOR or more", promises = {15})
  private static void atOnceFromFloorOn() {
    for (int floor : new int[] {1, 40, 99, 100}) {
      SevenEights x = blank(PARROT, 0);
      x.set(SLIP, 100);
      x.set(FLOOR, floor);
      x.firm(0, 31, floor);
      due("FLOOR " + floor, x.would(0, 31, 9, 1), 0);
      x.firm(0, 31, floor - 1);
      dueWould(x, 31, 9, -9, 3, 9, -9);
    }
    SevenEights x = blank(PARROT, 0);
    x.set(FLOOR, 0);
    dueWould(x, 31, 9, 56, 0, 7, -9);
  }

  @Sentence(value = "and TAKES is t or less", promises = {15})
  private static void atOnceInTime() {
    SevenEights x = blank(PARROT, 0);
    x.set(FLOOR, 0);
    x.set(SLIP, 100);
    dueWould(x, 31, 7, 56, 0, 7, -9);
    dueWould(x, 31, 6, -9, 3, 6, -9);
    x.firm(0, 31, 85);
    dueWould(x, 31, 2, 56, 0, 2, -9);
    dueWould(x, 31, 1, -9, 3, 1, -9);
    x.firm(0, 31, 86);
    dueWould(x, 31, 1, 56, 0, 1, -9);
  }

  @Sentence(value = "FEEL ... if t is below 3 ... AT ONCE", promises = {15})
  private static void atOnceByWhatIsFelt() {
    SevenEights afraid = blank(AFRAID, 15);
    afraid.firm(0, 31, 100);
    // felt are 85: 2 seconds
    dueWould(afraid, 31, 1, -9, 3, 1, -9);
    dueWould(afraid, 31, 2, 56, 0, 2, -9);
    dueWould(afraid, 31, 3, 56, 0, 1, -9);
    SevenEights sure = blank(SURE, 40);
    dueWould(sure, 0, 5, 4, 0, 5, -9);
    sure.set(FLOOR, 41);
    dueWould(sure, 0, 5, 6, 2, 5, 1);
  }

  // ---- BY A WAY

  @Sentence(value = "of the PAIRS TIED with a less 1 and with b less 1 (in this order) the first", promises = {15})
  private static void wayByALessOneFirst() {
    SevenEights x = blank(LEARNER, 0);
    x.firm(0, 28, 100);
    x.firm(0, 30, 100);
    dueWould(x, 31, 9, 56, 1, 3, 28);
    x.firm(0, 28, 85);
    dueWould(x, 31, 9, 56, 1, 4, 28);
    dueWould(x, 31, 3, 56, 1, 3, 30);
    x.firm(0, 28, 0);
    dueWould(x, 31, 9, 56, 1, 3, 30);
    x.firm(0, 30, 0);
    x.firm(0, 32, 100);
    x.firm(0, 33, 100);
    dueWould(x, 31, 9, 63, 2, 9, 32);
  }

  @Sentence(value = "as far as there are such ... BY A WAY", promises = {15})
  private static void wayAtTheEdges() {
    SevenEights x = blank(LEARNER, 0);
    x.firm(0, 1, 100);
    // 2 2 has neither; 3 3 has 2 3 by both; 2 4 has 2 3 by b alone
    dueWould(x, 0, 9, 6, 2, 9, 1);
    dueWould(x, 8, 9, 9, 1, 3, 1);
    dueWould(x, 2, 9, 8, 1, 3, 1);
    // 9 9 has 8 9 by both
    x.firm(0, 34, 100);
    dueWould(x, 35, 9, 81, 1, 3, 34);
    // 2 2, PAIR 0, is the way of 2 3 alone
    x.firm(0, 1, 0);
    x.firm(0, 0, 100);
    dueWould(x, 1, 3, 6, 1, 3, 0);
    dueWould(x, 1, 2, 4, 2, 2, 0);
  }

  @Sentence(value = "AT ONCE in t less STEP seconds (of these 1 at least)", promises = {15})
  private static void wayNeedsASecondBesideStep() {
    int[] kinds = {LEARNER, GUESSER, COUNTER, SURE}, steps = {2, 2, 1, 1};
    for (int k = 0; k < 4; k++) {
      SevenEights x = blank(kinds[k], 0);
      x.firm(0, 30, 100);
      dueWould(x, 31, steps[k] + 1, 56, 1, steps[k] + 1, 30);
      dueWould(x, 31, steps[k], 49, 2, steps[k], 30);
      due("1 second", x.would(0, 31, 1, 1), 2);
    }
  }

  @Sentence(value = "would be said AT ONCE in t less STEP seconds", promises = {15})
  private static void wayInTime() {
    SevenEights x = blank(LEARNER, 0);
    x.set(FLOOR, 10);
    x.firm(0, 31, 9);
    x.firm(0, 30, 10);
    // 10 takes 7, and STEP 2
    dueWould(x, 31, 9, 56, 1, 9, 30);
    dueWould(x, 31, 8, -9, 3, 8, -9);
    x.firm(0, 30, 9);
    dueWould(x, 31, 9, -9, 3, 9, -9);
    SevenEights counter = blank(COUNTER, 0);
    counter.firm(0, 30, 40);
    // 40 takes 5, and STEP 1
    dueWould(counter, 31, 6, 56, 1, 6, 30);
    dueWould(counter, 31, 5, 49, 2, 5, 30);
    counter.firm(0, 30, 39);
    dueWould(counter, 31, 9, 49, 2, 9, 30);
  }

  @Sentence(value = "parrot (afraid, too): no WAY", promises = {15})
  private static void noWayForParrots() {
    for (int kind : new int[] {PARROT, AFRAID}) {
      SevenEights x = blank(kind, 0);
      x.firm(0, 28, 100);
      x.firm(0, 30, 100);
      for (int t = 1; t <= 9; t++) dueWould(x, 31, t, 48, 2, t, 28);
    }
  }

  @Sentence(value = "sure: as counter, and A ... BY A WAY", promises = {15})
  private static void wayByWhatIsFelt() {
    SevenEights x = blank(SURE, 40);
    x.set(FLOOR, 60);
    x.firm(0, 30, 20);
    // felt are 60: 3 seconds, and 1
    dueWould(x, 31, 4, 56, 1, 4, 30);
    dueWould(x, 31, 3, 49, 2, 3, 30);
    x.firm(0, 30, 19);
    dueWould(x, 31, 9, 49, 2, 9, 30);
  }

  // ---- BY A SLIP

  @Sentence(value = "of all TIED ones that with the greatest FEEL (by t), of several the least", promises = {15})
  private static void slipOnTheGreatest() {
    SevenEights x = blank(PARROT, 0);
    for (int by : new int[] {28, 30, 32, 33}) x.firm(0, by, 50);
    dueWould(x, 31, 1, 48, 2, 1, 28);
    int[][] one = {{33, 64}, {32, 63}, {30, 49}, {28, 48}};
    for (int[] by : one) {
      x.firm(0, by[0], 51);
      dueWould(x, 31, 1, by[1], 2, 1, by[0]);
    }
  }

  @Sentence(value = "the greatest FEEL (by t)", promises = {15})
  private static void slipByWhatIsFelt() {
    SevenEights afraid = blank(AFRAID, 40);
    afraid.set(SLIP, 0);
    afraid.firm(0, 32, 40);
    afraid.firm(0, 30, 10);
    // in 2 seconds all feel 0: the least; in 3 it is 7 9
    dueWould(afraid, 31, 2, 48, 2, 2, 28);
    dueWould(afraid, 31, 3, 63, 2, 3, 32);
    SevenEights sure = blank(SURE, 40);
    sure.firm(0, 32, 100);
    sure.firm(0, 30, 60);
    // both feel 100
    dueWould(sure, 31, 1, 49, 2, 1, 30);
    sure.firm(0, 30, 59);
    dueWould(sure, 31, 1, 63, 2, 1, 32);
  }

  @Sentence(value = "if that is SLIP or more", promises = {15})
  private static void slipFromSlipOn() {
    for (int slip : new int[] {1, 30, 99, 100}) {
      SevenEights x = blank(PARROT, 0);
      x.set(SLIP, slip);
      x.firm(0, 30, slip);
      dueWould(x, 31, 9, 49, 2, 9, 30);
      x.firm(0, 30, slip - 1);
      dueWould(x, 31, 9, -9, 3, 9, -9);
    }
    SevenEights x = blank(PARROT, 0);
    x.set(SLIP, 0);
    dueWould(x, 31, 9, 48, 2, 9, 28);
  }

  @Sentence(value = "(guesser: if there is one), its product is said, in t", promises = {15})
  private static void guesserSlipsOnAnything() {
    SevenEights x = blank(GUESSER, 0);
    x.set(SLIP, 100);
    dueWould(x, 31, 1, 48, 2, 1, 28);
    dueWould(x, 31, 9, 48, 2, 9, 28);
    dueWould(x, 0, 9, 6, 2, 9, 1);
    dueWould(x, 35, 9, 72, 2, 9, 34);
  }

  @Sentence(value = "Else nothing is said (-9), in t", promises = {15})
  private static void nothingIsSaid() {
    for (int kind : new int[] {LEARNER, COUNTER, PARROT, AFRAID, SURE}) {
      SevenEights x = blank(kind, 0);
      dueWould(x, 31, 1, -9, 3, 1, -9);
      dueWould(x, 31, 9, -9, 3, 9, -9);
      due("ask", x.ask(0, 31, 9), -9);
    }
  }

  // ---- ASKED, TOLD, NIGHTS

  @Sentence(value = "FIRM is more by (100 less FIRM) by 4, and 1 (100 at most)", promises = {16})
  private static void askedFirmGrows() {
    int[][] steps = {{0, 26}, {1, 26}, {92, 95}, {93, 95}, {95, 97}, {96, 98}, {97, 98}, {98, 99}, {99, 100}, {100, 100}};
    for (int[] step : steps) {
      SevenEights x = with(PARROT, 0);
      x.set(FLOOR, 0);
      x.firm(0, 31, step[0]);
      due("said", x.ask(0, 31, 9), 56);
      due("FIRM from " + step[0], x.head(0, 31, 0), step[1]);
    }
  }

  @Sentence(value = "if the DAY is another one than LATEST (or there is none), RIGHTS are 1 more", promises = {16})
  private static void askedRightsOnceADay() {
    SevenEights x = with(LEARNER, 0);
    x.ask(0, 0, 9);
    dueHead(x, 0, 86, 1, 0);
    x.ask(0, 0, 9);
    dueHead(x, 0, 90, 1, 0);
    x.nights(1);
    x.ask(0, 0, 9);
    due("on the next DAY", x.head(0, 0, 1), 2);
    x.ask(0, 0, 9);
    due("once a DAY", x.head(0, 0, 1), 2);
    // nothing is said on DAY 2: then the DAY is no other one
    x.nights(1);
    x.firm(0, 0, 0);
    x.firm(0, 1, 0);
    due("nothing", x.ask(0, 0, 9), -9);
    dueHead(x, 0, 0, 2, 2);
    x.firm(0, 0, 100);
    x.ask(0, 0, 9);
    due("LATEST is this DAY", x.head(0, 0, 1), 2);
  }

  @Sentence(value = "RIGHTS are 1 more (9 at most)", promises = {16})
  private static void askedRightsUpToNine() {
    SevenEights x = with(LEARNER, 0);
    for (int r = 7; r <= 9; r++) {
      x.rights(0, r, r);
      x.firm(0, r, 100);
      x.ask(0, r, 9);
      due("from " + r, x.head(0, r, 1), Math.min(9, r + 1));
    }
  }

  @Sentence(value = "By a slip: FIRM is 1 less (0 at least)", promises = {16})
  private static void askedSlipFromNothing() {
    int[][] steps = {{2, 1}, {1, 0}, {0, 0}};
    for (int[] step : steps) {
      SevenEights x = blank(PARROT, 0);
      x.rights(0, 31, 3);
      x.firm(0, 31, step[0]);
      x.firm(0, 30, 50);
      due("a slip", x.ask(0, 31, 9), 49);
      dueHead(x, 31, step[1], 3, 0);
      dueHead(x, 30, 51, 0, -9);
    }
  }

  @Sentence(value = "FIRM of the one on which one slipped 1 more (100 at most)", promises = {16})
  private static void askedSlipOnAFullOne() {
    int[][] steps = {{98, 99}, {99, 100}, {100, 100}};
    for (int[] step : steps) {
      SevenEights x = blank(PARROT, 0);
      x.firm(0, 31, 9);
      x.firm(0, 30, step[0]);
      due("a slip", x.ask(0, 31, 9), 49);
      dueHead(x, 31, 8, 0, 0);
      dueHead(x, 30, step[1], 0, -9);
    }
  }

  @Sentence(value = "LATEST is the DAY", promises = {16})
  private static void askedInAnyWay() {
    SevenEights x = blank(LEARNER, 0);
    x.nights(30);
    x.ask(0, 31, 1);
    dueHead(x, 31, 0, 0, 30);
    // by a way: RIGHTS grow too, and the PAIR by which stays as it was
    x.firm(0, 30, 100);
    x.ask(0, 32, 1);
    x.firm(0, 31, 100);
    due("by a way", x.ask(0, 33, 3), 64);
    dueHead(x, 33, 26, 1, 30);
    dueHead(x, 31, 100, 0, 30);
    due("not asked", x.head(0, 30, 2), -9);
  }

  @Sentence(value = "TOLD: FIRM is more by (100 less FIRM) by 6, and 1 (100 at most)", promises = {17})
  private static void toldFirmGrows() {
    int[][] steps = {{0, 17}, {4, 21}, {5, 21}, {88, 91}, {89, 91}, {94, 96}, {95, 96}, {98, 99}, {99, 100}, {100, 100}};
    for (int[] step : steps) {
      SevenEights x = with(LEARNER, 0);
      x.firm(0, 31, step[0]);
      due("told from " + step[0], x.tell(0, 31), step[1]);
      dueHead(x, 31, step[1], 0, -9);
    }
  }

  @Sentence(value = "each FIRM is less by FIRM times FORGET by (100 times (RIGHTS and 1))", promises = {18})
  private static void aNightTakesAway() {
    // FORGET, RIGHTS, FIRM, FIRM then
    int[][] steps = {{10, 0, 9, 9}, {10, 0, 10, 9}, {10, 0, 19, 18}, {10, 0, 20, 18}, {10, 0, 100, 90}, {50, 0, 1, 1},
      {50, 0, 2, 1}, {50, 0, 100, 50}, {50, 9, 100, 95}, {50, 9, 20, 19}, {50, 9, 19, 19}, {0, 0, 100, 100},
      {1, 9, 100, 100}, {10, 9, 100, 99}, {10, 9, 99, 99}, {50, 0, 0, 0}};
    for (int[] step : steps) {
      SevenEights x = with(LEARNER, 0);
      x.set(FORGET, step[0]);
      x.rights(0, 31, step[1]);
      x.firm(0, 31, step[2]);
      x.nights(1);
      due("FIRM " + step[2] + " by " + step[0] + " and " + step[1], x.head(0, 31, 0), step[3]);
      due("RIGHTS stay", x.head(0, 31, 1), step[1]);
    }
  }

  @Sentence(value = "n NIGHTS (0 to 30): the DAY then", promises = {18})
  private static void nightsOneByOne() {
    SevenEights x = with(LEARNER, 0);
    due("none", x.nights(0), 0);
    due("FIRM stays", x.head(0, 0, 0), 80);
    due("thirty", x.nights(30), 30);
    // 80 72 65 59 54 49 45 41 37 34 31 28 26 24 22 20 18 17 16 15 14 13 12 11 10 9 and no less
    due("FIRM cut night by night", x.head(0, 0, 0), 9);
    due("-1", x.nights(-1), BAD);
    due("31", x.nights(31), BAD);
    due("DAY", x.day(), 30);
  }

  // ---- CARDS

  @Sentence(value = "BOX of a PAIR: 1, and 1 more for each two of RIGHTS, 5 at most", promises = {9})
  private static void boxByRights() {
    SevenEights x = with(LEARNER, 0);
    int[] boxes = {1, 1, 2, 2, 3, 3, 4, 4, 5, 5};
    for (int r = 0; r <= 9; r++) {
      x.rights(0, 35, r);
      due("RIGHTS " + r, x.head(0, 35, 3), boxes[r]);
    }
  }

  @Sentence(value = "DUE: LATEST and 1, 2, 4, 8, 16 by BOX 1 to 5; DAY 0 if it wasn't asked", promises = {9})
  private static void dueByBox() {
    SevenEights x = with(LEARNER, 0);
    x.nights(7);
    int[] due = {8, 8, 9, 9, 11, 11, 15, 15, 23, 23};
    for (int r = 0; r <= 9; r++) {
      x.rights(0, 35, r);
      due("not asked, RIGHTS " + r, x.head(0, 35, 4), 0);
    }
    x.ask(0, 35, 1);
    for (int r = 0; r <= 9; r++) {
      x.rights(0, 35, r);
      due("RIGHTS " + r, x.head(0, 35, 4), due[r]);
    }
  }

  /** With one LEARNER who was asked all on DAY 0, and has RIGHTS 9 in all: all are DUE on DAY 16. */
  private static SevenEights allAsked() {
    SevenEights x = with(LEARNER, 0);
    for (int p = 0; p < 36; p++) {
      x.ask(0, p, 1);
      x.rights(0, p, 9);
    }
    return x;
  }

  @Sentence(value = "none, if that is later than the DAY", promises = {19})
  private static void cardOnItsDay() {
    SevenEights x = allAsked();
    due("DAY 0", x.card(0), NONE);
    x.nights(15);
    due("the DAY before", x.card(0), NONE);
    x.nights(1);
    due("the DAY", x.card(0), 0);
    x.nights(30);
    due("later", x.card(0), 0);
  }

  @Sentence(value = "the PAIR that is DUE first, of several the least", promises = {19})
  private static void cardThatIsDueFirst() {
    SevenEights x = allAsked();
    x.nights(30);
    due("all at once: the least", x.card(0), 0);
    x.rights(0, 35, 7);
    due("35 is DUE on 8", x.card(0), 35);
    x.rights(0, 20, 6);
    due("20, too", x.card(0), 20);
    x.rights(0, 21, 0);
    due("21 is DUE on 1", x.card(0), 21);
  }

  @Sentence(value = "DAY 0 if it wasn't asked ... DUE first", promises = {19})
  private static void cardThatWasNeverAsked() {
    SevenEights x = with(LEARNER, 0);
    due("all: the least", x.card(0), 0);
    for (int p = 0; p < 35; p++) x.ask(0, p, 1);
    due("the last", x.card(0), 35);
    x.nights(9);
    due("ahead of all others", x.card(0), 35);
    x.ask(0, 35, 1);
    due("then the least of the others", x.card(0), 0);
    x.ask(0, 0, 1);
    due("then the next one", x.card(0), 1);
  }

  // ---- what is known

  @Sentence(value = "KNOWN by t: PAIRS of which the product would be said", promises = {20})
  private static void knownNoneAndAll() {
    SevenEights x = blank(COUNTER, 0);
    due("none", x.known(0, 9), 0);
    x.firm(0, 30, 100);
    due("at once", x.known(0, 1), setOf(30));
    // 7 7 is the way of 7 8 alone
    due("and by a way", x.known(0, 2), setOf(30, 31));
    allFirm(x, 0, 86);
    due("all", x.known(0, 1), ALL);
    x.firm(0, 0, 85);
    due("all but 2 2, which has no way", x.known(0, 1), ALL - 1);
    due("a slip is not known", x.would(0, 0, 1, 1), 2);
  }

  @Sentence(value = "FRIDAY by n and t: PAIRS that wouldn't be KNOWN behind n NIGHTS (0 to 30)", promises = {21})
  private static void fridayBehindNights() {
    SevenEights x = blank(PARROT, 0);
    x.firm(0, 31, 45);
    // 45, 41, 37: FLOOR is 40; 41 takes 4
    due("0 NIGHTS", x.friday(0, 0, 4), ALL - setOf(31));
    due("1 NIGHT", x.friday(0, 1, 4), ALL - setOf(31));
    due("in 3", x.friday(0, 1, 3), ALL);
    due("2 NIGHTS", x.friday(0, 2, 9), ALL);
    x.set(FORGET, 0);
    allFirm(x, 0, 100);
    due("30 NIGHTS that take nothing", x.friday(0, 30, 1), 0);
    x.set(FORGET, 10);
    x.rights(0, 31, 9);
    // with RIGHTS 9 100 becomes 99, and no less
    due("30 NIGHTS that take much", x.friday(0, 30, 1), ALL - setOf(31));
    due("the DAY stays", x.day(), 0);
    due("FIRM stays", x.learnerOf(0, 2), 3600);
    SevenEights sure = blank(SURE, 40);
    // FIRM 0 feels 40: 5 seconds, whatever the NIGHTS
    due("sure in 5", sure.friday(0, 30, 5), 0);
    due("sure in 4", sure.friday(0, 30, 4), ALL);
  }

  @Sentence(value = "without a common divisor, below above 0 (0 is 0 by 1)", promises = {22})
  private static void oddsAsAFraction() {
    // how many of 36 are known, above, below
    int[][] fractions = {{0, 0, 1}, {1, 1, 36}, {2, 1, 18}, {5, 5, 36}, {8, 2, 9}, {18, 1, 2}, {24, 2, 3}, {27, 3, 4},
      {35, 35, 36}, {36, 1, 1}};
    for (int[] fraction : fractions) {
      SevenEights x = blank(PARROT, 0);
      for (int p = 0; p < fraction[0]; p++) x.firm(0, p, 100);
      due(fraction[0] + " above", x.odds(1, 0), fraction[1]);
      due(fraction[0] + " below", x.odds(1, 1), fraction[2]);
    }
  }

  @Sentence(value = "Of all LEARNERS and all PAIRS how many are KNOWN", promises = {22})
  private static void oddsOfAll() {
    SevenEights x = new SevenEights();
    due("no LEARNERS", x.odds(9, 0), NONE);
    due("no LEARNERS", x.odds(9, 1), NONE);
    for (int n = 0; n < 4; n++) {
      x.learner(PARROT, 0);
      allFirm(x, n, 0);
    }
    due("none of 144", x.odds(9, 1), 1);
    x.firm(3, 35, 100);
    due("1", x.odds(9, 0), 1);
    due("by 144", x.odds(9, 1), 144);
    for (int n = 0; n < 4; n++) allFirm(x, n, 100);
    x.firm(0, 0, 0);
    due("143", x.odds(9, 0), 143);
    due("by 144", x.odds(9, 1), 144);
    x.firm(0, 0, 100);
    due("1", x.odds(9, 0), 1);
    due("by 1", x.odds(9, 1), 1);
  }

  // ---- BEST, TILL, HARDEST, DRAWS

  private static void dueBest(SevenEights x, int n, int nights, int sum, int first) {
    due("sum of " + n + " behind " + nights, x.best(0, n, nights, 0), sum);
    due("first of " + n + " behind " + nights, x.best(0, n, nights, 1), first);
  }

  @Sentence(value = "those by which all FIRM together is greatest ... of several the least", promises = {23})
  private static void bestOfSeveral() {
    SevenEights x = blank(LEARNER, 0);
    dueBest(x, 1, 0, 17, 0);
    dueBest(x, 2, 0, 34, 0);
    allFirm(x, 0, 100);
    dueBest(x, 1, 0, 3600, 0);
    dueBest(x, 2, 0, 3600, 0);
    x.firm(0, 35, 99);
    dueBest(x, 1, 0, 3600, 35);
    // the other one may be anything: the least goes first
    dueBest(x, 2, 0, 3600, 0);
    x.firm(0, 35, 98);
    dueBest(x, 1, 0, 3599, 35);
    dueBest(x, 2, 0, 3600, 35);
    // nothing to gain any more, for two and for one
    x.firm(0, 35, 100);
    dueBest(x, 2, 0, 3600, 0);
    x.firm(0, 35, 99);
    dueBest(x, 1, 0, 3600, 35);
    x.firm(0, 35, 100);
    dueBest(x, 1, 0, 3600, 0);
  }

  @Sentence(value = "the first of them, of several the least with which it can be", promises = {23})
  private static void bestRowsOfTwo() {
    SevenEights x = with(LEARNER, 0);
    allFirm(x, 0, 100);
    x.firm(0, 20, 50);
    x.firm(0, 30, 50);
    // 50 brings 9, then 7
    dueBest(x, 2, 0, 3518, 20);
    x.firm(0, 30, 60);
    // 60 brings 7, as 50 does the second time
    dueBest(x, 2, 0, 3526, 20);
    x.firm(0, 30, 62);
    dueBest(x, 2, 0, 3528, 20);
    x.firm(0, 10, 60);
    dueBest(x, 2, 0, 3488, 10);
    x.firm(0, 10, 100);
    x.firm(0, 21, 50);
    dueBest(x, 2, 0, 3480, 20);
  }

  @Sentence(value = "greatest behind d NIGHTS (0 to 9)", promises = {23})
  private static void bestBehindNights() {
    SevenEights x = blank(LEARNER, 0);
    x.set(FORGET, 50);
    x.rights(0, 30, 9);
    dueBest(x, 1, 0, 17, 0);
    // 17 stays with RIGHTS 9, and becomes 9 else
    dueBest(x, 1, 1, 17, 30);
    // 9 5 3 2 1 and no less
    dueBest(x, 1, 9, 17, 30);
    // twice: 31, less 1 each NIGHT; with another one it were 17 and 1
    dueBest(x, 2, 9, 22, 30);
    // 17 and 9 behind one NIGHT, or 30
    dueBest(x, 2, 1, 30, 30);
    dueBest(x, 2, 0, 34, 0);
    due("nothing has changed", x.learnerOf(0, 2), 0);
  }

  @Sentence(value = "TILL: how often (0 to 99) a PAIR must be TOLD for its FIRM to be a level or more", promises = {24})
  private static void tillALevelOrMore() {
    SevenEights x = blank(LEARNER, 0);
    int[] firm = {0, 17, 31, 43, 53, 61, 68, 74, 79, 83, 86, 89, 91, 93, 95, 96, 97, 98, 99, 100};
    for (int times = 0; times < firm.length; times++) {
      due("just that level", x.till(0, 31, firm[times]), times);
      if (times > 0) due("one less", x.till(0, 31, firm[times - 1] + 1), times);
    }
    x.firm(0, 31, 100);
    due("it is", x.till(0, 31, 100), 0);
    x.firm(0, 31, 99);
    due("it was", x.till(0, 31, 99), 0);
    due("one more", x.till(0, 31, 100), 1);
  }

  @Sentence(value = "HARDEST by t: the PAIR that fewest LEARNERS KNOW, of several the least", promises = {25})
  private static void hardestOfSeveral() {
    SevenEights x = new SevenEights();
    due("no LEARNERS", x.hardest(9), NONE);
    for (int n = 0; n < 4; n++) {
      x.learner(PARROT, 0);
      allFirm(x, n, 0);
    }
    due("none knows any", x.hardest(9), 0);
    x.firm(0, 0, 100);
    due("one knows 0", x.hardest(9), 1);
    for (int n = 0; n < 4; n++) allFirm(x, n, 100);
    due("all know all", x.hardest(1), 0);
    x.firm(3, 35, 0);
    due("one doesn't know 35", x.hardest(1), 35);
    x.firm(0, 34, 0);
    due("nor one 34: the least", x.hardest(1), 34);
    x.firm(1, 35, 0);
    due("35 only two", x.hardest(1), 35);
  }

  @Sentence(value = "DRAWS by t: the PAIR on which a LEARNER would slip from most others, of several the least", promises = {26})
  private static void drawsOfSeveral() {
    SevenEights x = blank(PARROT, 0);
    x.firm(0, 34, 39);
    due("8 9 draws", x.draws(0, 9, 0), 34);
    due("from three", x.draws(0, 9, 1), 3);
    x.firm(0, 2, 39);
    due("2 4 from three, too: the least", x.draws(0, 9, 0), 2);
    x.firm(0, 31, 38);
    // 7 8 takes 6 8 and 7 7; from 7 9 and 8 8 it is 8 9
    due("7 8 from two", x.draws(0, 9, 0), 2);
    x.firm(0, 2, 0);
    x.firm(0, 1, 39);
    due("2 3 from three, 2 2 among them: the least", x.draws(0, 9, 0), 1);
    x.firm(0, 19, 38);
    due("4 8 from four", x.draws(0, 9, 0), 19);
    due("four", x.draws(0, 9, 1), 4);
  }

  @Sentence(value = "NONE: no slip would be", promises = {26})
  private static void drawsOfNone() {
    SevenEights x = blank(PARROT, 0);
    due("nothing is said", x.draws(0, 9, 0), NONE);
    due("nothing is said", x.draws(0, 9, 1), NONE);
    x.firm(0, 0, 30);
    due("2 2, from 2 3", x.draws(0, 9, 0), 0);
    due("one", x.draws(0, 9, 1), 1);
    x.firm(0, 0, 29);
    due("below SLIP", x.draws(0, 9, 0), NONE);
    allFirm(x, 0, 100);
    due("all are known", x.draws(0, 1, 0), NONE);
    due("all are known", x.draws(0, 1, 1), NONE);
  }

  // ---- how long an object is used

  @Sentence("An object is used for at most 512 calls after it has been made")
  private static void upToTheLastCall() {
    SevenEights x = with(GUESSER, 0);
    for (int i = 2; i < 512; i++) x.nights(30);
    due("the 512th call", x.ask(0, 0, 9), 6);
    SevenEights days = new SevenEights();
    int day = 0;
    for (int i = 0; i < 512; i++) day = days.nights(30);
    due("the 512th", day, 15360);
    SevenEights drawn = blank(GUESSER, 0);
    int z = 1;
    for (int i = 37; i < 511; i++) {
      z = z * 1103515245 + 12345;
      due("draw " + i, drawn.draw(0, 9), (z >>> 16) % 36);
    }
    due("z", drawn.seed(0), z);
  }
}
