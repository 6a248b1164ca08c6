/** Promise by promise: ordinary inputs, the edges that the document names, and wrong inputs. */
public final class PromisesTest extends TestBase {
  public static void main(String[] args) {
    where = "promise 1"; aNewObject();
    where = "promise 2"; feed();
    where = "promise 3"; lesson();
    where = "promise 4"; learner();
    where = "promise 5"; learnerOf();
    where = "promise 6"; pair();
    where = "promise 7"; pairOf();
    where = "promise 8"; tied();
    where = "promise 9"; head();
    where = "promise 10"; firm();
    where = "promise 11"; rights();
    where = "promise 12"; set();
    where = "promise 13"; day();
    where = "promise 14"; feel();
    where = "promise 15"; would();
    where = "promise 16"; ask();
    where = "promise 17"; tell();
    where = "promise 18"; nights();
    where = "promise 19"; card();
    where = "promise 20"; known();
    where = "promise 21"; friday();
    where = "promise 22"; odds();
    where = "promise 23"; best();
    where = "promise 24"; till();
    where = "promise 25"; hardest();
    where = "promise 26"; draws();
    where = "promise 27"; give();
    where = "promise 28"; item();
    where = "promise 29"; seed();
    where = "promise 30"; draw();
    where = "promise 31"; prove();
    where = "promise 32"; row();
    where = "promise 33"; alterRow();
    where = "promise 34"; judge();
    where = "promise 35"; firms();
    where = "promise 36"; sheet();
    where = "promise 37"; put();
    where = "promise 38"; number();
    where = "promise 39"; shelf();
    where = "promise 40"; taken();
    where = "promise 41"; act();
    where = "promise 42"; trace();
    where = "promise 43"; many();
    where = "promise 44"; keep();
    where = "promise 45"; again();
    end("all promises hold");
  }

  private static void aNewObject() {
    SevenEights x = new SevenEights();
    for (int what = 0; what < 5; what++) due("many", x.many(what), 0);
    due("item", x.item(0, 0), NONE);
    due("again", x.again(), NONE);
    due("day", x.day(), 0);
    due("seed", x.seed(1), 1);
    due("FORGET", x.set(0, 10), 10);
    due("FLOOR", x.set(1, 40), 40);
    due("SLIP", x.set(2, 30), 30);
    due("row", x.row(0, 0), -99);
    due("trace", x.trace(0), NONE);
    for (int i = 0; i < 4; i++) {
      due("a SHEET is missing", x.number(i, 0, 0), -11);
      due("a SHELF holds nothing", x.taken(i, 0), -11);
    }
  }

  private static void feed() {
    SevenEights x = new SevenEights();
    due("n 0", x.feed(5, 0), BAD);
    due("n 9", x.feed(5, 9), BAD);
    due("n low", x.feed(5, LOW), BAD);
    due("n high", x.feed(5, HIGH), BAD);
    due("nothing came", x.many(3), 0);
    // "rest 4; ", the lowest byte first, and one byte of more
    due("eight", x.feed(0x203b342074736572L, 8), 8);
    due("one of eight", x.feed(0x7777777777777720L, 1), 9);
    due("read", x.lesson(), 1);
    due("NIGHTS", x.item(0, 1), 4);
    for (int i = 1; i <= 24; i++) due("eights", x.feed(0, 8), 8 * i);
    due("193", x.feed(0, 1), 193);
    due("201", x.feed(0, 8), FULL);
    due("still 193", x.many(3), 193);
    due("200", x.feed(0, 7), 200);
    due("201 again", x.feed(0, 1), FULL);
    due("BAD ahead of FULL", x.feed(0, 0), BAD);
    due("still 200", x.many(3), 200);
  }

  private static void fault(String text, int place) {
    SevenEights x = new SevenEights();
    read(x, "rest 1; rest 2;");
    due("lesson of '" + text + "'", read(x, text), -100 - place);
    due("THE LESSON stays behind '" + text + "'", x.many(1), 2);
    due("THE TAPE is used up by '" + text + "'", x.many(3), 0);
  }

  private static void lesson() {
    SevenEights x = new SevenEights();
    due("three", read(x, "ask 9 2 in 7; tell 3 3; rest 9;"), 3);
    due("sort", x.item(0, 0), 0);
    due("pair in any order", x.item(0, 1), 7);
    due("seconds", x.item(0, 2), 7);
    due("tell", x.item(1, 1), 8);
    due("rest", x.item(2, 1), 9);
    due("used up", x.many(3), 0);
    due("blanks anywhere", read(x, "   ask  2   9  in  1  ;tell 9 9   ;  "), 2);
    due("blanks only where needed", read(x, "ask7 8in3;tell2 2;rest1;"), 3);
    due("two digits", read(x, "rest 09;ask 02 03 in 04;"), 2);
    due("their numbers", x.item(1, 1), 1);
    due("only blanks", read(x, "    "), 0);
    due("then none", x.many(1), 0);
    due("twelve", read(x, "rest1;".repeat(12) + "  "), 12);
    due("an empty TAPE", x.lesson(), 0);
    due("then none", x.many(1), 0);
    fault("rest1;".repeat(12) + "  rest1;", 74);
    fault("rest1;".repeat(12) + " ;", 73);
    fault("ask", 3);
    fault("ask  ", 5);
    fault("asks 7 8 in 3;", 0);
    fault("as k 7 8 in 3;", 0);
    fault("Ask 7 8 in 3;", 0);
    fault("  7", 2);
    fault("rest 1; ;", 8);
    fault("ask 1 8 in 3;", 4);
    fault("ask 2 10 in 3;", 6);
    fault("ask 10 2 in 3;", 4);
    fault("bsk 2 9 in 3;", 0);
    fault("ask 78 in 3;", 4);
    fault("ask 7 in 3;", 6);
    fault("ask 7 8 9 in 3;", 8);
    fault("ask 7 8 inn 3;", 8);
    fault("ask 7 8 in3 3;", 12);
    fault("ask 7 8 in 0;", 11);
    fault("ask 7 8 in 10;", 11);
    fault("ask 7 8 in 3", 12);
    fault("ask 7 8 in 3 in;", 13);
    fault("tell 7 8 in 3;", 9);
    fault("tell 008 7;", 5);
    fault("tell 1234567890123456789012 7;", 5);
    fault("rest 0;", 5);
    fault("rest 10;", 5);
    fault("rest 00;", 5);
    fault("rest;", 4);
    fault("rest 1 1;", 7);
    fault("rest\t1;", 4);
    fault("rest 1;\n", 7);
    fault("rest -1;", 5);
    fault("rest 1" + (char) 187 + ";", 6);
    fault((char) 225 + "sk 7 8 in 3;", 0);
    fault("" + (char) 0, 0);
  }

  private static void learner() {
    SevenEights x = new SevenEights();
    due("KIND 6", x.learner(6, 0), BAD);
    due("KIND -1", x.learner(-1, 0), BAD);
    due("A 41", x.learner(0, 41), BAD);
    due("A -1", x.learner(0, -1), BAD);
    due("0", x.learner(GUESSER, 40), 0);
    due("1", x.learner(LEARNER, 0), 1);
    due("2", x.learner(AFRAID, 1), 2);
    due("3", x.learner(SURE, 2), 3);
    due("4", x.learner(0, 0), FULL);
    due("BAD ahead of FULL", x.learner(0, 41), BAD);
    due("4 of them", x.many(0), 4);
    due("KIND of 0", x.learnerOf(0, 0), GUESSER);
  }

  private static void learnerOf() {
    SevenEights x = with(AFRAID, 17);
    due("KIND", x.learnerOf(0, 0), AFRAID);
    due("A", x.learnerOf(0, 1), 17);
    // 8 of 80, 7 of 70, 60 for 33 44 66 77 88 99, and fifteen others with 60 less half the product
    due("all FIRM", x.learnerOf(0, 2), 640 + 490 + 360 + 623);
    x.firm(0, 0, 0);
    due("all FIRM then", x.learnerOf(0, 2), 2033);
    due("what 3", x.learnerOf(0, 3), BAD);
    due("what -1", x.learnerOf(0, -1), BAD);
    due("no LEARNER", x.learnerOf(1, 0), BAD);
    due("below 0", x.learnerOf(-1, 0), BAD);
    due("low", x.learnerOf(LOW, 0), BAD);
  }

  private static void pair() {
    SevenEights x = new SevenEights();
    int number = 0;
    for (int a = 2; a <= 9; a++) {
      for (int b = a; b <= 9; b++) {
        due("pair " + a + " " + b, x.pair(a, b), number);
        due("pair " + b + " " + a, x.pair(b, a), number);
        number++;
      }
    }
    due("1 5", x.pair(1, 5), BAD);
    due("5 1", x.pair(5, 1), BAD);
    due("10 5", x.pair(10, 5), BAD);
    due("5 10", x.pair(5, 10), BAD);
    due("low", x.pair(LOW, HIGH), BAD);
  }

  private static void pairOf() {
    SevenEights x = new SevenEights();
    int[][] pairs = {{0, 2, 2, 4, 80}, {3, 2, 5, 10, 80}, {7, 2, 9, 18, 80}, {8, 3, 3, 9, 60}, {9, 3, 4, 12, 54},
      {10, 3, 5, 15, 70}, {14, 3, 9, 27, 47}, {21, 5, 5, 25, 70}, {25, 5, 9, 45, 70}, {34, 8, 9, 72, 24}, {35, 9, 9, 81, 60}};
    for (int[] pair : pairs) {
      for (int what = 0; what < 4; what++) due("pairOf " + pair[0] + " " + what, x.pairOf(pair[0], what), pair[what + 1]);
    }
    for (int a = 2; a <= 9; a++) {
      for (int b = a; b <= 9; b++) {
        due("a", x.pairOf(x.pair(a, b), 0), a);
        due("b", x.pairOf(x.pair(a, b), 1), b);
        due("the product", x.pairOf(x.pair(a, b), 2), a * b);
      }
    }
    due("what 4", x.pairOf(0, 4), BAD);
    due("what -1", x.pairOf(0, -1), BAD);
    due("36", x.pairOf(36, 0), BAD);
    due("-1", x.pairOf(-1, 0), BAD);
  }

  private static void tied() {
    SevenEights x = new SevenEights();
    due("2 2", x.tied(0), setOf(1));
    due("2 3", x.tied(1), setOf(0, 2, 8));
    due("3 3", x.tied(8), setOf(1, 9));
    due("3 5", x.tied(10), setOf(3, 16, 9, 11));
    due("2 9", x.tied(7), setOf(6, 14));
    due("7 8", x.tied(31), setOf(28, 33, 30, 32));
    due("8 9", x.tied(34), setOf(32, 35, 33));
    due("9 9", x.tied(35), setOf(34));
    due("36", x.tied(36), BAD);
    due("-1", x.tied(-1), BAD);
  }

  private static void head() {
    SevenEights x = with(LEARNER, 0);
    int[] atFirst = {32, 0, -9, 1, 0};
    for (int what = 0; what < 5; what++) due("at first " + what, x.head(0, 31, what), atFirst[what]);
    x.nights(3);
    x.ask(0, 31, 9);
    due("LATEST", x.head(0, 31, 2), 3);
    int[] boxes = {1, 1, 2, 2, 3, 3, 4, 4, 5, 5};
    int[] days = {1, 2, 4, 8, 16};
    for (int r = 0; r <= 9; r++) {
      x.rights(0, 31, r);
      due("BOX by " + r, x.head(0, 31, 3), boxes[r]);
      due("DUE by " + r, x.head(0, 31, 4), 3 + days[boxes[r] - 1]);
    }
    x.rights(0, 30, 9);
    due("DUE if not asked", x.head(0, 30, 4), 0);
    due("what 5", x.head(0, 0, 5), BAD);
    due("what -1", x.head(0, 0, -1), BAD);
    due("pair 36", x.head(0, 36, 0), BAD);
    due("pair -1", x.head(0, -1, 0), BAD);
    due("learner 1", x.head(1, 0, 0), BAD);
    due("learner -1", x.head(-1, 0, 0), BAD);
  }

  private static void firm() {
    SevenEights x = with(LEARNER, 0);
    due("was", x.firm(0, 35, 100), 60);
    due("was then", x.firm(0, 35, 0), 100);
    due("101", x.firm(0, 35, 101), BAD);
    due("-1", x.firm(0, 35, -1), BAD);
    due("pair 36", x.firm(0, 36, 1), BAD);
    due("pair -1", x.firm(0, -1, 1), BAD);
    due("learner 1", x.firm(1, 35, 1), BAD);
    due("learner -1", x.firm(-1, 35, 1), BAD);
    due("unchanged", x.head(0, 35, 0), 0);
  }

  private static void rights() {
    SevenEights x = with(LEARNER, 0);
    due("were", x.rights(0, 35, 9), 0);
    due("were then", x.rights(0, 35, 4), 9);
    due("10", x.rights(0, 35, 10), BAD);
    due("-1", x.rights(0, 35, -1), BAD);
    due("pair 36", x.rights(0, 36, 1), BAD);
    due("pair -1", x.rights(0, -1, 1), BAD);
    due("learner 1", x.rights(1, 35, 1), BAD);
    due("learner -1", x.rights(-1, 35, 1), BAD);
    due("unchanged", x.head(0, 35, 1), 4);
  }

  private static void set() {
    SevenEights x = new SevenEights();
    int[] atFirst = {10, 40, 30};
    int[] most = {50, 100, 100};
    for (int law = 0; law < 3; law++) {
      due("above", x.set(law, most[law] + 1), BAD);
      due("below", x.set(law, -1), BAD);
      due("at first", x.set(law, most[law]), atFirst[law]);
      due("then", x.set(law, 0), most[law]);
    }
    due("law 3", x.set(3, 0), BAD);
    due("law -1", x.set(-1, 0), BAD);
  }

  private static void day() {
    SevenEights x = new SevenEights();
    due("0", x.day(), 0);
    x.nights(30);
    x.nights(2);
    due("32", x.day(), 32);
  }

  private static void feel() {
    int[] firms = {0, 15, 90, 100};
    for (int v : firms) {
      for (int kind : new int[] {LEARNER, COUNTER, PARROT, GUESSER}) {
        SevenEights x = with(kind, 20);
        x.firm(0, 5, v);
        for (int t = 1; t <= 9; t++) due("FIRM", x.feel(0, 5, t), v);
      }
      SevenEights afraid = with(AFRAID, 20);
      SevenEights sure = with(SURE, 20);
      afraid.firm(0, 5, v);
      sure.firm(0, 5, v);
      for (int t = 1; t <= 9; t++) {
        due("afraid", afraid.feel(0, 5, t), t < 3 ? Math.max(0, v - 20) : v);
        due("sure", sure.feel(0, 5, t), Math.min(100, v + 20));
      }
    }
    SevenEights x = with(LEARNER, 0);
    due("t 0", x.feel(0, 0, 0), BAD);
    due("t 10", x.feel(0, 0, 10), BAD);
    due("pair 36", x.feel(0, 36, 1), BAD);
    due("pair -1", x.feel(0, -1, 1), BAD);
    due("learner 1", x.feel(1, 0, 1), BAD);
    due("learner -1", x.feel(-1, 0, 1), BAD);
  }

  private static void would() {
    SevenEights x = with(LEARNER, 0);
    allFirm(x, 0, 0);
    // AT ONCE: FLOOR is 40, so 5 seconds; 39 is below it
    x.firm(0, 31, 40);
    dueWould(x, 31, 5, 56, 0, 5, -9);
    dueWould(x, 31, 4, -9, 3, 4, -9);
    x.firm(0, 31, 39);
    dueWould(x, 31, 9, -9, 3, 9, -9);
    x.firm(0, 31, 100);
    dueWould(x, 31, 1, 56, 0, 1, -9);
    x.firm(0, 31, 86);
    dueWould(x, 31, 1, 56, 0, 1, -9);
    x.firm(0, 31, 85);
    dueWould(x, 31, 2, 56, 0, 2, -9);
    x.firm(0, 31, 0);
    // BY A WAY: 6 8 ahead of 7 7, in 2 and what it takes
    x.firm(0, 30, 100);
    dueWould(x, 31, 3, 56, 1, 3, 30);
    x.firm(0, 28, 70);
    dueWould(x, 31, 9, 56, 1, 5, 28);
    dueWould(x, 31, 5, 56, 1, 5, 28);
    dueWould(x, 31, 4, 56, 1, 3, 30);
    // BY A SLIP: in 2 seconds there is no second left for a way
    dueWould(x, 31, 2, 49, 2, 2, 30);
    x.firm(0, 32, 100);
    dueWould(x, 31, 2, 49, 2, 2, 30);
    x.firm(0, 30, 99);
    dueWould(x, 31, 2, 63, 2, 2, 32);
    // no way by a greater one
    x.firm(0, 28, 0);
    x.firm(0, 30, 0);
    dueWould(x, 31, 9, 63, 2, 9, 32);
    x.firm(0, 32, 30);
    dueWould(x, 31, 9, 63, 2, 9, 32);
    x.firm(0, 32, 29);
    dueWould(x, 31, 9, -9, 3, 9, -9);
    // the way of 2 2 goes nowhere, that of 3 3 to 2 3
    x.firm(0, 1, 100);
    dueWould(x, 0, 9, 6, 2, 9, 1);
    dueWould(x, 8, 3, 9, 1, 3, 1);
    x.firm(0, 1, 0);
    x.firm(0, 0, 100);
    dueWould(x, 1, 2, 4, 2, 2, 0);
    dueWould(x, 1, 3, 6, 1, 3, 0);
    wouldByKinds();
    for (int what : new int[] {-1, 4}) due("what", x.would(0, 0, 1, what), BAD);
    for (int t : new int[] {0, 10, LOW, HIGH}) due("t", x.would(0, 0, t, 0), BAD);
    for (int pair : new int[] {-1, 36, LOW, HIGH}) due("pair", x.would(0, pair, 1, 0), BAD);
    for (int learner : new int[] {-1, 1, LOW, HIGH}) due("learner", x.would(learner, 0, 1, 0), BAD);
  }

  private static void wouldByKinds() {
    // 7 7 stands firm, else nothing does
    SevenEights[] of = new SevenEights[6];
    for (int kind = 0; kind < 6; kind++) {
      of[kind] = with(kind, 20);
      allFirm(of[kind], 0, 0);
      of[kind].firm(0, 30, 100);
    }
    dueWould(of[LEARNER], 31, 2, 49, 2, 2, 30);
    dueWould(of[LEARNER], 31, 3, 56, 1, 3, 30);
    dueWould(of[COUNTER], 31, 1, 49, 2, 1, 30);
    dueWould(of[COUNTER], 31, 2, 56, 1, 2, 30);
    dueWould(of[SURE], 31, 2, 56, 1, 2, 30);
    dueWould(of[GUESSER], 31, 2, 49, 2, 2, 30);
    dueWould(of[GUESSER], 31, 3, 56, 1, 3, 30);
    dueWould(of[PARROT], 31, 9, 49, 2, 9, 30);
    dueWould(of[AFRAID], 31, 9, 49, 2, 9, 30);
    // a guesser slips on what he doesn't know, the least of them; others say nothing, but the sure feel 20
    dueWould(of[GUESSER], 10, 4, 10, 2, 4, 3);
    dueWould(of[LEARNER], 10, 4, -9, 3, 4, -9);
    dueWould(of[SURE], 10, 4, -9, 3, 4, -9);
    of[SURE].set(2, 20);
    dueWould(of[SURE], 10, 4, 10, 2, 4, 3);
    // afraid: 40 less 20 in 2 seconds is no slip, 50 less 20 is one; in 3 it is 50
    of[AFRAID].firm(0, 30, 49);
    dueWould(of[AFRAID], 31, 2, -9, 3, 2, -9);
    of[AFRAID].firm(0, 30, 50);
    dueWould(of[AFRAID], 31, 2, 49, 2, 2, 30);
    dueWould(of[AFRAID], 30, 4, 49, 0, 4, -9);
  }

  private static void ask() {
    SevenEights x = with(LEARNER, 0);
    due("2 2", x.ask(0, 0, 9), 4);
    dueHead(x, 0, 86, 1, 0);
    due("on the same DAY", x.ask(0, 0, 9), 4);
    dueHead(x, 0, 90, 1, 0);
    x.nights(1);
    due("on another", x.ask(0, 0, 9), 4);
    // 90 less 90 * 10 by 200 is 86, and 3 and 1
    dueHead(x, 0, 90, 2, 1);
    x.firm(0, 0, 100);
    x.rights(0, 0, 9);
    x.nights(1);
    x.firm(0, 0, 100);
    x.ask(0, 0, 9);
    dueHead(x, 0, 100, 9, 2);
    askByOtherWays();
    for (int t : new int[] {0, 10}) due("t", x.ask(0, 0, t), BAD);
    for (int pair : new int[] {-1, 36}) due("pair", x.ask(0, pair, 1), BAD);
    for (int learner : new int[] {-1, 1}) due("learner", x.ask(learner, 0, 1), BAD);
    dueHead(x, 0, 100, 9, 2);
  }

  private static void askByOtherWays() {
    SevenEights x = with(LEARNER, 0);
    allFirm(x, 0, 0);
    x.nights(5);
    due("nothing", x.ask(0, 31, 9), -9);
    dueHead(x, 31, 0, 0, 5);
    x.firm(0, 30, 100);
    due("by a way, on the DAY of a failure", x.ask(0, 31, 3), 56);
    dueHead(x, 31, 26, 0, 5);
    dueHead(x, 30, 100, 0, -9);
    due("by a slip", x.ask(0, 31, 2), 49);
    dueHead(x, 31, 25, 0, 5);
    dueHead(x, 30, 100, 0, -9);
    x.firm(0, 31, 0);
    x.firm(0, 30, 99);
    due("by a slip from 0", x.ask(0, 31, 2), 49);
    dueHead(x, 31, 0, 0, 5);
    dueHead(x, 30, 100, 0, -9);
    x.firm(0, 27, 35);
    due("6 8 slips on 6 7", x.ask(0, 28, 1), 42);
    dueHead(x, 27, 36, 0, -9);
    dueHead(x, 28, 0, 0, 5);
  }

  private static void tell() {
    SevenEights x = with(LEARNER, 0);
    due("32 and 11 and 1", x.tell(0, 31), 44);
    due("44 and 9 and 1", x.tell(0, 31), 54);
    dueHead(x, 31, 54, 0, -9);
    x.firm(0, 31, 100);
    due("100", x.tell(0, 31), 100);
    x.firm(0, 31, 99);
    due("99", x.tell(0, 31), 100);
    x.firm(0, 31, 0);
    due("0", x.tell(0, 31), 17);
    due("learner 1", x.tell(1, 0), BAD);
    due("learner -1", x.tell(-1, 0), BAD);
    due("pair 36", x.tell(0, 36), BAD);
    due("pair -1", x.tell(0, -1), BAD);
  }

  private static void nights() {
    SevenEights x = with(LEARNER, 0);
    x.learner(SURE, 9);
    x.rights(1, 0, 1);
    due("0", x.nights(0), 0);
    due("FIRM stays", x.head(0, 0, 0), 80);
    due("2", x.nights(2), 2);
    due("80, 72, 65", x.head(0, 0, 0), 65);
    due("80, 76, 73 with RIGHTS 1", x.head(1, 0, 0), 73);
    due("24, 22, 20", x.head(1, 34, 0), 20);
    x.set(0, 0);
    due("30", x.nights(30), 32);
    due("nothing is forgotten", x.head(0, 0, 0), 65);
    x.set(0, 50);
    x.nights(1);
    due("half", x.head(0, 0, 0), 33);
    x.nights(30);
    due("1 stays", x.head(0, 0, 0), 1);
    due("31", x.nights(31), BAD);
    due("-1", x.nights(-1), BAD);
    due("the DAY stays", x.day(), 63);
  }

  private static void card() {
    SevenEights x = with(LEARNER, 0);
    due("the least that was never asked", x.card(0), 0);
    x.ask(0, 0, 9);
    due("the next", x.card(0), 1);
    for (int pair = 1; pair < 36; pair++) x.ask(0, pair, 9);
    due("all are asked", x.card(0), NONE);
    x.nights(1);
    due("due tomorrow", x.card(0), 0);
    for (int pair = 0; pair < 36; pair++) x.rights(0, pair, 9);
    due("all later", x.card(0), NONE);
    x.rights(0, 20, 2);
    due("in two DAYS", x.card(0), NONE);
    x.nights(1);
    due("is due now", x.card(0), 20);
    x.rights(0, 30, 0);
    due("was due before", x.card(0), 30);
    x.rights(0, 34, 1);
    due("of two the least", x.card(0), 30);
    due("learner 1", x.card(1), BAD);
    due("learner -1", x.card(-1), BAD);
  }

  private static void known() {
    SevenEights x = with(LEARNER, 0);
    allFirm(x, 0, 0);
    due("none", x.known(0, 9), 0);
    x.firm(0, 0, 100);
    x.firm(0, 35, 100);
    due("at once alone", x.known(0, 2), setOf(0, 35));
    due("and 2 3 by a way", x.known(0, 3), setOf(0, 1, 35));
    allFirm(x, 0, 100);
    due("all", x.known(0, 1), ALL);
    due("t 0", x.known(0, 0), BAD);
    due("t 10", x.known(0, 10), BAD);
    due("learner 1", x.known(1, 1), BAD);
    due("learner -1", x.known(-1, 1), BAD);
  }

  private static void friday() {
    SevenEights x = with(PARROT, 0);
    allFirm(x, 0, 100);
    x.firm(0, 5, 0);
    x.rights(0, 6, 9);
    due("now", x.friday(0, 0, 1), setOf(5));
    // 100, 90, 81, 73, 66, 60, 54, 49, 45, 41, 37
    due("1 night, in 1", x.friday(0, 1, 1), setOf(5));
    due("2 nights, in 1", x.friday(0, 2, 1), ALL & ~setOf(6));
    due("9 nights, in 3", x.friday(0, 9, 3), ALL & ~setOf(6));
    due("9 nights, in 4", x.friday(0, 9, 4), setOf(5));
    due("10 nights", x.friday(0, 10, 9), ALL & ~setOf(6));
    due("nothing has changed", x.friday(0, 0, 1), setOf(5));
    due("nor the DAY", x.day(), 0);
    due("30, with RIGHTS 9 99 stays", x.friday(0, 30, 1), ALL & ~setOf(6));
    due("31", x.friday(0, 31, 1), BAD);
    due("-1", x.friday(0, -1, 1), BAD);
    due("t 0", x.friday(0, 0, 0), BAD);
    due("t 10", x.friday(0, 0, 10), BAD);
    due("learner 1", x.friday(1, 0, 1), BAD);
    due("learner -1", x.friday(-1, 0, 1), BAD);
  }

  private static void odds() {
    SevenEights x = new SevenEights();
    due("no LEARNERS", x.odds(1, 0), NONE);
    due("BAD ahead of NONE", x.odds(0, 0), BAD);
    due("part ahead of NONE", x.odds(1, 2), BAD);
    x.learner(PARROT, 0);
    allFirm(x, 0, 0);
    due("0 above", x.odds(9, 0), 0);
    due("1 below", x.odds(9, 1), 1);
    for (int pair = 0; pair < 24; pair++) x.firm(0, pair, 100);
    due("2", x.odds(9, 0), 2);
    due("by 3", x.odds(9, 1), 3);
    allFirm(x, 0, 100);
    x.firm(0, 1, 0);
    x.firm(0, 2, 0);
    due("17", x.odds(1, 0), 17);
    due("by 18", x.odds(1, 1), 18);
    allFirm(x, 0, 100);
    due("1", x.odds(1, 0), 1);
    due("by 1", x.odds(1, 1), 1);
    x.learner(PARROT, 0);
    allFirm(x, 1, 0);
    x.firm(1, 3, 100);
    due("37", x.odds(1, 0), 37);
    due("by 72", x.odds(1, 1), 72);
    due("t 10", x.odds(10, 0), BAD);
    due("part -1", x.odds(1, -1), BAD);
  }

  private static void best() {
    SevenEights x = with(LEARNER, 0);
    allFirm(x, 0, 100);
    due("nothing to gain", x.best(0, 1, 0, 0), 3600);
    due("the least then", x.best(0, 2, 0, 1), 0);
    x.firm(0, 20, 40);
    due("40 and 11", x.best(0, 1, 0, 0), 3551);
    due("by it", x.best(0, 1, 0, 1), 20);
    due("the same twice: and 9", x.best(0, 2, 0, 0), 3560);
    due("by it twice", x.best(0, 2, 0, 1), 20);
    x.firm(0, 30, 10);
    due("30 brings 16, then 13", x.best(0, 2, 0, 0), 3450 + 16 + 13);
    due("by 30 twice", x.best(0, 2, 0, 1), 30);
    x.firm(0, 20, 20);
    due("14 by 20 is more", x.best(0, 2, 0, 0), 3430 + 16 + 14);
    due("the lesser goes first", x.best(0, 2, 0, 1), 20);
    x.firm(0, 30, 100);
    x.firm(0, 21, 20);
    due("two side by side", x.best(0, 2, 0, 0), 3440 + 14 + 14);
    due("the lesser of them", x.best(0, 2, 0, 1), 20);
    // behind a night: 99 becomes 90 as 100 does; with RIGHTS less is lost
    allFirm(x, 0, 100);
    x.firm(0, 4, 99);
    due("one night", x.best(0, 1, 1, 0), 3240);
    due("99 is no worse than 100", x.best(0, 1, 1, 1), 0);
    due("but today", x.best(0, 1, 0, 1), 4);
    for (int n : new int[] {0, 3}) due("n", x.best(0, n, 0, 0), BAD);
    for (int nights : new int[] {-1, 10}) due("nights", x.best(0, 1, nights, 0), BAD);
    for (int what : new int[] {-1, 2}) due("what", x.best(0, 1, 0, what), BAD);
    for (int learner : new int[] {-1, 1}) due("learner", x.best(learner, 1, 0, 0), BAD);
    due("nothing has changed", x.learnerOf(0, 2), 3599);
  }

  private static void till() {
    SevenEights x = with(LEARNER, 0);
    due("32", x.till(0, 31, 32), 0);
    due("44", x.till(0, 31, 33), 1);
    due("44 too", x.till(0, 31, 44), 1);
    due("54", x.till(0, 31, 45), 2);
    x.firm(0, 31, 99);
    due("100", x.till(0, 31, 100), 1);
    x.firm(0, 31, 100);
    due("it is", x.till(0, 31, 100), 0);
    x.firm(0, 31, 0);
    // 17 31 43 53 61 68 74 79 83 86 89 91 93 95 96 97 98 99 100
    due("from 0", x.till(0, 31, 100), 19);
    due("nothing has changed", x.head(0, 31, 0), 0);
    for (int level : new int[] {-1, 101}) due("level", x.till(0, 0, level), BAD);
    for (int pair : new int[] {-1, 36}) due("pair", x.till(0, pair, 0), BAD);
    for (int learner : new int[] {-1, 1}) due("learner", x.till(learner, 0, 0), BAD);
  }

  private static void hardest() {
    SevenEights x = new SevenEights();
    due("no LEARNERS", x.hardest(1), NONE);
    due("BAD ahead of NONE", x.hardest(0), BAD);
    x.learner(PARROT, 0);
    x.learner(PARROT, 0);
    allFirm(x, 0, 100);
    allFirm(x, 1, 100);
    due("all know all", x.hardest(9), 0);
    x.firm(0, 9, 0);
    x.firm(0, 12, 0);
    due("one doesn't know", x.hardest(9), 9);
    x.firm(1, 12, 0);
    due("none knows", x.hardest(9), 12);
    due("t 10", x.hardest(10), BAD);
  }

  private static void draws() {
    SevenEights x = with(PARROT, 0);
    allFirm(x, 0, 0);
    due("no slip", x.draws(0, 9, 0), NONE);
    due("no slip, how many", x.draws(0, 9, 1), NONE);
    x.firm(0, 10, 35);
    due("3 5 draws from next door", x.draws(0, 9, 0), 10);
    due("from four", x.draws(0, 9, 1), 4);
    x.firm(0, 35, 36);
    due("9 9 draws from one", x.draws(0, 9, 0), 10);
    x.firm(0, 1, 38);
    x.firm(0, 10, 0);
    due("2 3 draws from three", x.draws(0, 9, 1), 3);
    x.firm(0, 34, 38);
    due("8 9 does, too: the least", x.draws(0, 9, 0), 1);
    allFirm(x, 0, 100);
    due("all are known", x.draws(0, 9, 0), NONE);
    for (int what : new int[] {-1, 2}) due("what", x.draws(0, 1, what), BAD);
    for (int t : new int[] {0, 10}) due("t", x.draws(0, t, 0), BAD);
    for (int learner : new int[] {-1, 1}) due("learner", x.draws(learner, 1, 0), BAD);
  }

  private static void give() {
    SevenEights x = with(LEARNER, 0);
    x.learner(LEARNER, 0);
    due("an empty LESSON", x.give(0), 0);
    read(x, "ask 2 2 in 9; tell 7 8; rest 2; ask 2 2 in 3; ask 9 8 in 1;");
    due("two by the product", x.give(0), 2);
    due("the DAY", x.day(), 2);
    // 86; 86 less 86 * 10 by 200 is 82, then 78; and 5 and 1
    dueHead(x, 0, 84, 2, 2);
    // 24, 22, 20, and a slip
    dueHead(x, 34, 19, 0, 2);
    due("44, 40, 36", x.head(0, 31, 0), 36);
    due("nights for all", x.head(1, 0, 0), 65);
    due("but not asked", x.head(1, 0, 2), -9);
    due("THE LESSON stays", x.many(1), 5);
    due("learner 2", x.give(2), BAD);
    due("learner -1", x.give(-1), BAD);
    due("the DAY stays", x.day(), 2);
  }

  private static void item() {
    SevenEights x = new SevenEights();
    read(x, "ask 8 7 in 3; tell 9 2; rest 5;");
    int[][] want = {{0, 31, 3}, {1, 7, 0}, {2, 5, 0}};
    for (int i = 0; i < 3; i++) {
      for (int what = 0; what < 3; what++) due("item " + i + " " + what, x.item(i, what), want[i][what]);
    }
    due("3", x.item(3, 0), NONE);
    due("-1", x.item(-1, 0), NONE);
    due("low", x.item(LOW, 0), NONE);
    due("what 3", x.item(0, 3), BAD);
    due("what -1", x.item(0, -1), BAD);
    due("BAD ahead of NONE", x.item(3, 3), BAD);
  }

  private static void seed() {
    SevenEights x = new SevenEights();
    due("1 at first", x.seed(LOW), 1);
    due("then", x.seed(-7), LOW);
    due("then", x.seed(HIGH), -7);
    due("then", x.seed(0), HIGH);
  }

  private static void draw() {
    SevenEights x = with(PARROT, 0);
    allFirm(x, 0, 0);
    // 1103527590 >>> 16 is 16838, modulo 36: 26
    due("of 36", x.draw(0, 9), 26);
    due("z", x.seed(1), 1103527590);
    for (int pair = 0; pair < 26; pair++) x.firm(0, pair, 100);
    // of 26 to 35 the one at place 8
    due("of 10", x.draw(0, 9), 34);
    // 0 becomes 12345: its upper bits are 0
    x.seed(0);
    due("the first of them", x.draw(0, 9), 26);
    due("z", x.seed(-1), 12345);
    // -1103502900 >>> 16 is 48697
    due("of a z below 0", x.draw(0, 9), 33);
    allFirm(x, 0, 100);
    x.seed(5);
    due("all are KNOWN", x.draw(0, 1), NONE);
    due("z stays", x.seed(5), 5);
    for (int t : new int[] {0, 10}) due("t", x.draw(0, t), BAD);
    for (int learner : new int[] {-1, 1}) due("learner", x.draw(learner, 1), BAD);
    due("z stays", x.seed(5), 5);
  }

  private static SevenEights proven() {
    SevenEights x = with(LEARNER, 0);
    read(x, "ask 7 8 in 2; tell 7 8; rest 1; ask 8 9 in 1; ask 2 2 in 9;");
    x.prove(0);
    return x;
  }

  private static void prove() {
    SevenEights x = with(LEARNER, 0);
    due("an empty LESSON", x.prove(0), 0);
    x = proven();
    due("three", x.prove(0), 3);
    int day = x.day();
    due("nothing has changed", day, 0);
    dueHead(x, 31, 32, 0, -9);
    due("learner 1", x.prove(1), BAD);
    due("learner -1", x.prove(-1), BAD);
    due("ROWS stay", x.many(2), 3);
    read(x, "rest 1;");
    due("ROWS are no part of THE LESSON", x.many(2), 3);
    due("none", x.prove(0), 0);
    due("none", x.many(2), 0);
  }

  private static void row() {
    SevenEights x = proven();
    // 7 8 slips on 7 7 (60) in 2; 8 9 on 8 8 or 9 9 (54): the least; 2 2 is 72: 2 seconds
    int[][] want = {{31, 49, 2}, {34, 64, 1}, {0, 4, 2}};
    for (int i = 0; i < 3; i++) {
      for (int what = 0; what < 3; what++) due("row " + i + " " + what, x.row(i, what), want[i][what]);
    }
    rowsAsIfGiven();
    due("3", x.row(3, 0), -99);
    due("-1", x.row(-1, 0), -99);
    due("high", x.row(HIGH, 0), -99);
    due("what 3", x.row(0, 3), -99);
    due("what -1", x.row(0, -1), -99);
  }

  private static void rowsAsIfGiven() {
    SevenEights x = with(PARROT, 0);
    allFirm(x, 0, 0);
    x.firm(0, 31, 40);
    // 40, asked: 56; told: 64, 71; asked: 79; nine nights with RIGHTS 1: 54; asked on another DAY: 66; five
    // nights with RIGHTS 2: 57
    read(x, "ask 7 8 in 9; tell 7 8; tell 7 8; ask 7 8 in 9; rest 9; ask 7 8 in 9; rest 5; ask 7 8 in 3; ask 7 7 in 4;");
    due("five", x.prove(0), 5);
    int[][] want = {{31, 56, 5}, {31, 56, 2}, {31, 56, 4}, {31, 56, 3}, {30, 56, 4}};
    for (int i = 0; i < 5; i++) {
      for (int what = 0; what < 3; what++) due("row " + i + " " + what, x.row(i, what), want[i][what]);
    }
    read(x, "ask 9 9 in 1;".repeat(12));
    due("twelve", x.prove(0), 12);
    due("the last", x.row(11, 0), 35);
    due("nothing is said", x.row(11, 1), -9);
  }

  private static void alterRow() {
    SevenEights x = proven();
    due("was", x.alterRow(1, 1, LOW), 64);
    due("was then", x.alterRow(1, 1, -9), LOW);
    due("is", x.row(1, 1), -9);
    due("others are as they were", x.row(1, 0), 34);
    due("and", x.row(0, 1), 49);
    due("3", x.alterRow(3, 0, 1), -99);
    due("-1", x.alterRow(-1, 0, 1), -99);
    due("what 3", x.alterRow(0, 3, 1), -99);
    due("what -1", x.alterRow(0, -1, 1), -99);
    due("unchanged", x.row(1, 0), 34);
  }

  private static void judge() {
    SevenEights x = proven();
    x.learner(SURE, 40);
    due("all is right", x.judge(0), 0);
    due("not as those of another", x.judge(1), 1);
    for (int i = 2; i >= 0; i--) {
      for (int what = 2; what >= 0; what--) {
        int was = x.alterRow(i, what, 77);
        due("row " + i + " " + what, x.judge(0), i + 1);
        x.alterRow(i, what, was);
      }
    }
    x.alterRow(2, 0, 1);
    x.alterRow(1, 0, 1);
    due("the first that isn't", x.judge(0), 2);
    x = proven();
    read(x, "ask 7 8 in 2;");
    due("a ROW more than there must be", x.judge(0), 2);
    x.prove(0);
    read(x, "ask 7 8 in 2; ask 2 2 in 2;");
    due("fewer", x.judge(0), 222);
    x.alterRow(0, 2, 3);
    due("a wrong one ahead of fewer", x.judge(0), 1);
    read(x, "");
    x.prove(0);
    due("no ROWS where none must be", x.judge(0), 0);
    read(x, "ask 2 2 in 2;");
    due("no ROWS where one must be", x.judge(0), 222);
    due("learner 1", x.judge(1), BAD);
    due("learner -1", x.judge(-1), BAD);
    due("nothing has changed", x.head(0, 0, 2), -9);
  }

  private static void firms() {
    SevenEights x = with(LEARNER, 0);
    due("missing", x.firms(0, 0, 0, 0, 0), -11);
    x.sheet(0, 0, 40);
    for (int i = 0; i < 40; i++) x.put(0, i, i * 7 - 50);
    due("all 36", x.firms(0, 4, 0, 0, 36), 36);
    due("-22", x.head(0, 0, 0), 0);
    due("-1", x.head(0, 3, 0), 0);
    due("6", x.head(0, 4, 0), 6);
    due("97", x.head(0, 17, 0), 97);
    due("104", x.head(0, 18, 0), 100);
    due("132 is -124", x.head(0, 22, 0), 0);
    due("the last one", x.firms(0, 8, 0, 35, 1), 1);
    due("6", x.head(0, 35, 0), 6);
    due("none of them", x.firms(0, 40, 0, 35, 0), 0);
    x.put(0, 0, 33);
    due("the first one", x.firms(0, 0, 0, 1, 1), 1);
    due("33", x.head(0, 1, 0), 33);
    for (int i : new int[] {-1, 40, LOW, HIGH}) due("outside", x.firms(0, i, 0, 0, 1), -12);
    due("none from outside", x.firms(0, 41, 0, 0, 0), -12);
    due("beyond", x.firms(0, 36, 0, 0, 5), -12);
    for (int sort = 1; sort <= 3; sort++) {
      x.sheet(1, sort, 2);
      due("sort ahead of place", x.firms(1, 9, 0, 0, 1), -13);
    }
    for (int sheet : new int[] {-1, 4}) due("sheet", x.firms(sheet, 0, 0, 0, 1), BAD);
    for (int learner : new int[] {-1, 1}) due("learner", x.firms(2, 0, learner, 0, 1), BAD);
    for (int pair : new int[] {-1, 36, HIGH}) due("pair", x.firms(2, 0, 0, pair, 0), BAD);
    for (int n : new int[] {-1, 37, LOW, HIGH}) due("n", x.firms(2, 0, 0, 0, n), BAD);
    due("beyond the last PAIR", x.firms(2, 0, 0, 35, 2), BAD);
    due("unchanged", x.head(0, 35, 0), 6);
  }

  private static void sheet() {
    SevenEights x = new SevenEights();
    for (int sort = 0; sort < 4; sort++) {
      due("made", x.sheet(sort, sort, 40), 1);
      due("0", x.number(sort, sort, 39), 0);
      x.put(sort, 39, 5);
      x.put(sort, 0, 5);
      due("anew", x.sheet(sort, sort, 40), 1);
      due("0 again", x.number(sort, sort, 39), 0);
      due("0 again", x.number(sort, sort, 0), 0);
      due("of none", x.sheet(sort, sort, 0), 1);
      due("none", x.number(sort, sort, 0), -12);
      due("missing, whatever n", x.sheet(sort, -1, HIGH), 1);
      due("missing", x.number(sort, sort, 0), -11);
      due("missing, below 0", x.sheet(sort, -1, -1), 1);
    }
    x.sheet(0, 0, 3);
    due("41", x.sheet(0, 0, 41), BAD);
    due("-1", x.sheet(0, 0, -1), -14);
    due("low", x.sheet(0, 3, LOW), -14);
    due("sort 4", x.sheet(0, 4, -1), BAD);
    due("sort -2", x.sheet(0, -2, 1), BAD);
    due("sheet 4", x.sheet(4, 0, 1), BAD);
    due("sheet -1", x.sheet(-1, 0, -1), BAD);
    due("unchanged", x.number(0, 0, 2), 0);
  }

  private static void put() {
    SevenEights x = new SevenEights();
    due("missing", x.put(0, 0, 1), -11);
    x.sheet(0, 2, 1);
    due("the first", x.put(0, 0, 6), 1);
    due("6", x.number(0, 2, 0), 6);
    for (int sort = 0; sort < 4; sort++) x.sheet(sort, sort, 2);
    int[][] want = {{-128, 56, 0, -1}, {128, 4664, 0, -1}, {128, 70200, LOW, HIGH}, {128, 70200, LOW, HIGH}};
    int[] values = {128, 70200, LOW, HIGH};
    for (int sort = 0; sort < 4; sort++) {
      for (int k = 0; k < 4; k++) {
        due("put", x.put(sort, 1, values[k]), 1);
        due("narrowed", x.number(sort, sort, 1), want[sort][k]);
        due("the other stays", x.number(sort, sort, 0), 0);
      }
    }
    for (int i : new int[] {-1, 2, LOW, HIGH}) due("outside", x.put(0, i, 1), -12);
    for (int sheet : new int[] {-1, 4, LOW, HIGH}) due("sheet", x.put(sheet, 9, 1), BAD);
  }

  private static void number() {
    SevenEights x = new SevenEights();
    x.sheet(1, 2, 3);
    x.put(1, 2, -13);
    due("as low as a refusal", x.number(1, 2, 2), -13);
    due("another sort ahead of place", x.number(1, 1, 9), -13);
    due("outside", x.number(1, 2, 3), -12);
    due("below", x.number(1, 2, -1), -12);
    due("missing", x.number(0, 2, 9), -11);
    for (int sort : new int[] {-1, 4}) due("sort", x.number(0, sort, 0), BAD);
    for (int sheet : new int[] {-1, 4}) due("sheet", x.number(sheet, 0, 0), BAD);
  }

  private static void shelf() {
    SevenEights x = with(LEARNER, 0);
    x.sheet(2, 1, 7);
    due("a LEARNER", x.shelf(0, 0, 0), 1);
    due("is there", x.taken(0, 0), 0);
    due("a row", x.shelf(3, 1, 2), 1);
    due("is there", x.taken(3, 11), 7);
    due("what is missing", x.shelf(0, 1, 1), 1);
    due("is nothing", x.taken(0, 0), -11);
    due("nothing, whatever n", x.shelf(3, 2, LOW), 1);
    due("is nothing", x.taken(3, 11), -11);
    x.shelf(3, 0, 0);
    due("nothing behind a LEARNER", x.shelf(3, 2, 0), 1);
    due("is nothing", x.taken(3, 0), -11);
    x.shelf(3, 1, 2);
    due("a LEARNER behind a row", x.shelf(3, 0, 0), 1);
    due("is there", x.taken(3, 0), 0);
    x.shelf(1, 1, 2);
    x.sheet(2, 0, 9);
    due("a row stays when its SHEET becomes another", x.taken(1, 11), 7);
    for (int n : new int[] {-1, 1, LOW}) due("learner", x.shelf(3, 0, n), BAD);
    for (int n : new int[] {-1, 4, HIGH}) due("sheet", x.shelf(3, 1, n), BAD);
    for (int what : new int[] {-1, 3}) due("what", x.shelf(3, what, 0), BAD);
    for (int shelf : new int[] {-1, 4}) due("shelf", x.shelf(shelf, 0, 0), BAD);
    due("unchanged", x.taken(3, 0), 0);
  }

  private static void taken() {
    // by KIND: those for which it is taken, by bits
    int[] as = {0b000001, 0b000011, 0b000101, 0b001101, 0b010011, 0b100001};
    for (int kind = 0; kind < 6; kind++) {
      SevenEights x = with(LEARNER, 0);
      x.learner(kind, 0);
      x.shelf(2, 0, 1);
      for (int k = 0; k < 6; k++) due("kind " + kind + " as " + k, x.taken(2, k), (as[kind] >> k & 1) == 1 ? 1 : -13);
      for (int sort = 10; sort <= 13; sort++) due("a row", x.taken(2, sort), -13);
    }
    SevenEights x = with(LEARNER, 0);
    for (int sort = 0; sort < 4; sort++) {
      x.sheet(0, sort, 10 + sort);
      x.shelf(sort, 1, 0);
    }
    for (int sort = 0; sort < 4; sort++) {
      for (int k = 10; k <= 13; k++) due("sort " + sort + " as " + k, x.taken(sort, k), k == sort + 10 ? k : -13);
      due("a thing", x.taken(sort, 0), -13);
    }
    for (int k : new int[] {-1, 6, 9, 14, LOW, HIGH}) due("as", x.taken(0, k), BAD);
    for (int shelf : new int[] {-1, 4}) due("shelf", x.taken(shelf, 0), BAD);
    takenBehindAgain();
  }

  private static void takenBehindAgain() {
    SevenEights x = with(LEARNER, 0);
    x.keep();
    x.learner(SURE, 7);
    x.shelf(0, 0, 1);
    due("sure", x.taken(0, SURE), 1);
    x.again();
    due("no such LEARNER any more", x.taken(0, SURE), -11);
    due("nor acts", x.act(0, 0, 5), 0);
  }

  /** Of number 1 with A 4: a - n is 3. */
  private static void dueAct(int kind, int act, int x, int want, int... bodies) {
    SevenEights on = with(LEARNER, 0);
    on.learner(kind, 4);
    on.shelf(3, 0, 1);
    due("act " + act + " of " + kind, on.act(3, act, x), want);
    due("bodies", on.many(4), bodies.length);
    for (int i = 0; i < bodies.length; i++) due("body " + i, on.trace(i), bodies[i]);
    due("no more", on.trace(bodies.length), NONE);
  }

  private static void act() {
    dueAct(LEARNER, 0, 7, 8, 10);
    dueAct(LEARNER, 0, HIGH, LOW, 10);
    dueAct(LEARNER, 1, 7, 16, 11, 10);
    dueAct(LEARNER, 2, 7, 2, 12);
    dueAct(LEARNER, 2, -7, -2, 12);
    dueAct(LEARNER, 3, 7, 20, 13, 11, 10);
    dueAct(COUNTER, 0, 7, 8, 10);
    dueAct(COUNTER, 1, 7, 12, 20, 11, 10);
    dueAct(COUNTER, 2, 7, 2, 12);
    dueAct(COUNTER, 3, 7, 8, 13, 20, 11, 10);
    dueAct(PARROT, 0, 7, 24, 30, 10);
    dueAct(PARROT, 1, 7, 48, 11, 30, 10);
    dueAct(PARROT, 2, 7, 2, 12);
    dueAct(PARROT, 3, 7, 52, 31, 13, 11, 30, 10, 12);
    dueAct(AFRAID, 0, 7, -24, 40, 30, 10);
    dueAct(AFRAID, 1, 7, -54, 41, 11, 40, 30, 10, 40, 30, 10);
    dueAct(AFRAID, 2, 7, 2, 12);
    dueAct(AFRAID, 3, 7, -54 ^ 4, 31, 13, 41, 11, 40, 30, 10, 40, 30, 10, 12);
    dueAct(SURE, 0, 7, 7, 51, 10);
    dueAct(SURE, 1, 7, 10, 20, 11, 51, 10);
    dueAct(SURE, 2, 7, 2, 50, 12);
    dueAct(SURE, 3, 7, 14, 13, 20, 11, 51, 10);
    dueAct(GUESSER, 0, 7, 8, 10);
    dueAct(GUESSER, 1, 7, 16, 11, 10);
    dueAct(GUESSER, 2, 7, 7, 61, 12, 10);
    dueAct(GUESSER, 3, 7, 40, 60, 13, 11, 10);
    dueAct(SURE, 2, 6, 3, 50, 12);
    SevenEights parrot = with(LEARNER, 0);
    parrot.learner(PARROT, 2);
    parrot.shelf(0, 0, 1);
    // learns(7) is 48, ^ 2 is 50; shares(1) is 1
    due("a parrot tells, and shares", parrot.act(0, 3, 7), 51);
    actPartedBy0();
    actOfNothing();
  }

  private static void duePartedBy0(int kind, int act, int... bodies) {
    SevenEights x = with(kind, 0);
    x.shelf(0, 0, 0);
    due("act " + act + " of " + kind, x.act(0, act, 7), -15);
    due("bodies that began", x.many(4), bodies.length);
    for (int i = 0; i < bodies.length; i++) due("body " + i, x.trace(i), bodies[i]);
    due("another act behind it", x.act(0, 0, 0), 0);
    due("has its own bodies", x.trace(0), kind == PARROT ? 30 : kind == AFRAID ? 40 : kind == SURE ? 51 : 10);
  }

  private static void actPartedBy0() {
    duePartedBy0(LEARNER, 2, 12);
    duePartedBy0(SURE, 2, 50, 12);
    duePartedBy0(GUESSER, 2, 61, 12);
    duePartedBy0(PARROT, 3, 31, 13, 11, 30, 10, 12);
    duePartedBy0(AFRAID, 3, 31, 13, 41, 11, 40, 30, 10, 40, 30, 10, 12);
    SevenEights x = with(LEARNER, 0);
    x.learner(LEARNER, 0);
    x.shelf(0, 0, 1);
    due("the lowest by -1", x.act(0, 2, LOW), LOW);
  }

  private static void actOfNothing() {
    SevenEights x = with(LEARNER, 9);
    x.sheet(0, 0, 3);
    x.shelf(0, 0, 0);
    x.shelf(1, 1, 0);
    int[][] wrongs = {{-1, 0}, {4, 0}, {0, -1}, {0, 4}, {1, 0}, {2, 0}};
    for (int[] at : wrongs) {
      due("says", x.act(0, 0, 7), 7);
      due("one body", x.many(4), 1);
      due("of nothing", x.act(at[0], at[1], 7), 0);
      due("no bodies", x.many(4), 0);
    }
  }

  private static void trace() {
    SevenEights x = with(LEARNER, 9);
    due("none", x.trace(0), NONE);
    x.shelf(0, 0, 0);
    x.act(0, 1, 5);
    due("first", x.trace(0), 11);
    due("second", x.trace(1), 10);
    for (int i : new int[] {-1, 2, 30, LOW, HIGH}) due("outside", x.trace(i), NONE);
    x.act(0, 0, 5);
    due("the latest act alone", x.trace(0), 10);
    due("no second", x.trace(1), NONE);
  }

  private static void many() {
    SevenEights x = proven();
    x.shelf(0, 0, 0);
    x.act(0, 3, 1);
    x.feed(0, 6);
    int[] want = {1, 5, 3, 6, 3};
    for (int what = 0; what < 5; what++) due("what " + what, x.many(what), want[what]);
    for (int what : new int[] {-1, 5, LOW, HIGH}) due("another what", x.many(what), BAD);
  }

  private static void keep() {
    SevenEights x = with(AFRAID, 11);
    read(x, "rest 2; ask 2 2 in 9;");
    x.give(0);
    x.set(0, 5);
    x.set(1, 6);
    x.set(2, 7);
    x.seed(99);
    due("kept", x.keep(), 1);
    x.give(0);
    x.set(0, 0);
    x.set(1, 0);
    x.set(2, 0);
    x.seed(0);
    x.rights(0, 3, 3);
    x.learner(SURE, 2);
    read(x, "rest 9;");
    due("one LEARNER", x.again(), 1);
    due("A", x.learnerOf(0, 1), 11);
    due("KIND", x.learnerOf(0, 0), AFRAID);
    // 80, 72, 65; asked: and 8 and 1
    dueHead(x, 0, 74, 1, 2);
    dueHead(x, 3, 65, 0, -9);
    due("the DAY", x.day(), 2);
    due("FORGET", x.set(0, 1), 5);
    due("FLOOR", x.set(1, 1), 6);
    due("SLIP", x.set(2, 1), 7);
    due("z", x.seed(0), 99);
    due("THE LESSON", x.many(1), 2);
    due("its first", x.item(0, 1), 2);
  }

  private static void again() {
    SevenEights x = new SevenEights();
    due("nothing is kept", x.again(), NONE);
    x.keep();
    x.learner(GUESSER, 3);
    due("no LEARNERS were there", x.again(), 0);
    due("none", x.many(0), 0);
    x.learner(GUESSER, 3);
    x.keep();
    x.nights(4);
    due("the latest", x.again(), 1);
    x.nights(7);
    due("it stays", x.again(), 1);
    due("DAY", x.day(), 0);
    due("FIRM", x.head(0, 0, 0), 80);
    whatIsNotKept();
  }

  private static void whatIsNotKept() {
    SevenEights x = proven();
    x.keep();
    x.feed(0, 3);
    x.alterRow(0, 0, 9);
    x.sheet(0, 0, 4);
    x.put(0, 1, 8);
    x.shelf(1, 1, 0);
    x.shelf(2, 0, 0);
    x.act(2, 1, 1);
    due("again", x.again(), 1);
    due("THE TAPE", x.many(3), 3);
    due("ROWS", x.row(0, 0), 9);
    due("SHEETS", x.number(0, 0, 1), 8);
    due("a row on a SHELF", x.taken(1, 10), 4);
    due("a LEARNER on a SHELF", x.taken(2, 0), 0);
    due("THE TRACE", x.trace(0), 11);
    due("of two", x.many(4), 2);
  }
}
