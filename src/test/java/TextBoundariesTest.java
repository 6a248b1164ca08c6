/** THE TAPE and THE LESSON: each sentence about the TEXT that names a boundary. */
public final class TextBoundariesTest extends TestBase {
  private static final String[] BEYOND = {"`", "{", "/", ":", "A", "Z", "-", "!", ",", "\u001f", "\t", "\n", "\u0000", "\u007f",
    "\u0080", "\u00a0", "\u00e1", "\u00ff"};

  public static void main(String[] args) throws Exception {
    runSentences(TextBoundariesTest.class);
  }

  /** A FAULT, behind a LESSON of two that stays; THE TAPE is used up. */
  private static void fault(String text, int place) {
    SevenEights x = new SevenEights();
    read(x, "rest 4;tell 2 9;");
    due("lesson of '" + text + "'", read(x, text), -100 - place);
    due("ITEMS behind '" + text + "'", x.many(1), 2);
    due("the first behind '" + text + "'", x.item(0, 1), 4);
    due("the second behind '" + text + "'", x.item(1, 1), 7);
    due("bytes behind '" + text + "'", x.many(3), 0);
  }

  /** A LESSON of one ITEM. */
  private static void one(String text, int sort, int about, int seconds) {
    SevenEights x = new SevenEights();
    due("lesson of '" + text + "'", read(x, text), 1);
    int[] want = {sort, about, seconds};
    for (int what = 0; what < 3; what++) due(what + " of '" + text + "'", x.item(0, what), want[what]);
    due("bytes behind '" + text + "'", x.many(3), 0);
  }

  // ---- THE TAPE

  @Sentence(value = "n bytes (1 to 8) come to THE TAPE ... how many it has", promises = {2})
  private static void oneToEightBytes() {
    range("feed", n -> new SevenEights().feed(0, n), 1, 8, BAD);
    for (int n = 1; n <= 8; n++) {
      SevenEights x = new SevenEights();
      due("how many", x.feed(-1L, n), n);
      due("twice", x.feed(Long.MIN_VALUE, n), 2 * n);
      due("many", x.many(3), 2 * n);
    }
  }

  @Sentence(value = "the lowest of eight first", promises = {2})
  private static void theLowestFirst() {
    String text = "rest 4; ";
    long eight = 0;
    for (int i = 7; i >= 0; i--) eight = eight << 8 | text.charAt(i);
    SevenEights x = new SevenEights();
    x.feed(eight, 8);
    due("all eight", x.lesson(), 1);
    // the upper bytes don't come, whatever they are
    x.feed(eight | 0xff00000000000000L, 7);
    due("seven", x.lesson(), 1);
    x.feed(eight, 6);
    due("six: the end is missing", x.lesson(), -106);
    x.feed(0xffffffffffffff3bL, 1);
    due("one", x.lesson(), -100);
    x.feed(0xff20202020202020L, 8);
    due("the highest is a byte, too", x.lesson(), -107);
  }

  @Sentence(value = "THE TAPE takes bytes, 200 at most ... FULL: more than 200", promises = {2})
  private static void twoHundredBytes() {
    for (int n = 1; n <= 8; n++) {
      SevenEights x = new SevenEights();
      for (int i = 1; i <= 24; i++) due("eights", x.feed(0, 8), 8 * i);
      due("up to 200 less " + n, n == 8 ? x.many(3) : x.feed(0, 8 - n), 200 - n);
      if (n < 8) due("one too many", x.feed(0, n + 1), FULL);
      due("up to 200", x.feed(0, n), 200);
      for (int more = 1; more <= 8; more++) due("full", x.feed(0, more), FULL);
      due("200", x.many(3), 200);
      due("used up", x.lesson(), -100);
      due("empty again", x.feed(0, 8), 8);
    }
  }

  @Sentence(value = "lesson() uses it up", promises = {3, 43})
  private static void theTapeIsUsedUp() {
    SevenEights x = new SevenEights();
    due("taken", read(x, "rest 1;"), 1);
    due("empty", x.many(3), 0);
    due("an empty TEXT", x.lesson(), 0);
    due("no ITEMS", x.many(1), 0);
    due("a FAULT", read(x, "rest 1"), -106);
    due("empty", x.many(3), 0);
    // nothing of it is left to be read with the rest
    due("what would be its end", read(x, ";"), -100);
  }

  @Sentence(value = "THE TAPE becomes THE LESSON: how many ITEMS", promises = {3, 43})
  private static void theLessonBecomesAnother() {
    SevenEights x = new SevenEights();
    due("three", read(x, "rest 1;rest 2;rest 3;"), 3);
    due("one", read(x, "tell 9 9;"), 1);
    due("many", x.many(1), 1);
    due("the new one", x.item(0, 1), 35);
    due("none of the old ones", x.item(1, 0), NONE);
    due("only blanks", read(x, "        "), 0);
    due("none", x.item(0, 0), NONE);
  }

  @Sentence(value = "THE TAPE takes bytes ... read from a TEXT", promises = {2, 3})
  private static void twoHundredBytesAreRead() {
    String item = "ask 7 8 in 9;";
    String text = item.repeat(12);
    SevenEights x = new SevenEights();
    due("12 ITEMS, then blanks up to 200", read(x, text + " ".repeat(44)), 12);
    due("blanks ahead of 12 ITEMS up to 200", read(x, " ".repeat(44) + text), 12);
    due("the last of them", x.item(11, 2), 9);
    fault(" ".repeat(199) + ";", 199);
    fault(" ".repeat(197) + "ask", 200);
    fault("z".repeat(200), 0);
    fault("rest " + "1".repeat(195), 5);
    due("200 blanks", read(x, " ".repeat(200)), 0);
  }

  // ---- ITEMS

  @Sentence(value = "12 ITEMS at most ... the first NAME of a thirteenth ITEM", promises = {3})
  private static void twelveItems() {
    SevenEights x = new SevenEights();
    for (int many = 0; many <= 12; many++) due(many + " ITEMS", read(x, "rest 3;".repeat(many)), many);
    due("many", x.many(1), 12);
    due("the last", x.item(11, 1), 3);
    due("no more", x.item(12, 1), NONE);
    fault("rest 3;".repeat(13), 84);
    fault("rest 3;".repeat(12) + "   rest 3;", 87);
    fault("rest 3;".repeat(12) + " r", 85);
    fault("rest 3;".repeat(12) + "ask", 84);
    fault("rest 3;".repeat(12) + ";", 84);
    fault("rest 3;".repeat(12) + "3", 84);
    fault("rest 3;".repeat(11) + "rest 0;rest 3;", 82);
  }

  @Sentence(value = "ask, tell: two numbers from 2 to 9 (in any order)", promises = {3, 28})
  private static void numbersOfAPair() {
    SevenEights x = new SevenEights();
    for (int a = 2; a <= 9; a++) {
      for (int b = 2; b <= 9; b++) {
        int pair = x.pair(a, b);
        one("ask " + a + " " + b + " in 1;", 0, pair, 1);
        one("tell " + a + " " + b + ";", 1, pair, 0);
      }
    }
    for (String beyond : new String[] {"0", "1", "10", "11", "00", "01", "20", "99", "002"}) {
      fault("ask " + beyond + " 5 in 1;", 4);
      fault("ask 5 " + beyond + " in 1;", 6);
      fault("tell " + beyond + " 5;", 5);
      fault("tell 5 " + beyond + ";", 7);
    }
  }

  @Sentence(value = "in: SECONDS", promises = {3, 28})
  private static void secondsOfAnAsk() {
    for (int t = 1; t <= 9; t++) one("ask 2 2 in " + t + ";", 0, 0, t);
    for (String beyond : new String[] {"0", "10", "00", "99", "001"}) fault("ask 2 2 in " + beyond + ";", 11);
  }

  @Sentence(value = "rest: NIGHTS (1 to 9)", promises = {3, 28})
  private static void nightsOfARest() {
    for (int n = 1; n <= 9; n++) one("rest " + n + ";", 2, n, 0);
    for (String beyond : new String[] {"0", "10", "00", "30", "99", "001"}) fault("rest " + beyond + ";", 5);
  }

  @Sentence(value = "NUMBERS rows of digits (1 or 2) ... of more digits", promises = {3})
  private static void oneOrTwoDigits() {
    one("rest 9;", 2, 9, 0);
    one("rest 09;", 2, 9, 0);
    fault("rest 009;", 5);
    one("ask 02 9 in 01;", 0, 7, 1);
    fault("ask 02 9 in 001;", 12);
    one("tell 09 02;", 1, 7, 0);
    fault("tell 09 002;", 8);
    fault("rest 4294967297;", 5);
    fault("rest 18446744073709551617;", 5);
  }

  @Sentence(value = "both as long as they go", promises = {3})
  private static void asLongAsTheyGo() {
    fault("asks 7 8 in 3;", 0);
    fault("askask 7 8 in 3;", 0);
    fault("as 7 8 in 3;", 0);
    fault("ask 7 8 inn 3;", 8);
    fault("ask 7 8 i 3;", 8);
    fault("ask 78 in 3;", 4);
    fault("ask 7 8 in 33;", 11);
    fault("tel 7 8;", 0);
    fault("tells 7 8;", 0);
    fault("resta 1;", 0);
    fault("arest 1;", 0);
    fault("bsk 7 8 in 3;", 0);
    fault("asj 7 8 in 3;", 0);
    fault("ask 7 8 on 3;", 8);
    fault("ask 7 8 im 3;", 8);
    fault("rest 1;z", 7);
  }

  @Sentence(value = "blanks (32) part them, and stand elsewhere as one likes", promises = {3})
  private static void blanksAnywhere() {
    one("ask 7 8 in 3;", 0, 31, 3);
    one("   ask   7   8   in   3   ;   ", 0, 31, 3);
    one("ask7 8in3;", 0, 31, 3);
    one("ask 7 8 in 3 ;", 0, 31, 3);
    one("  tell2   9;", 1, 7, 0);
    one("rest1;", 2, 1, 0);
    fault("a sk 7 8 in 3;", 0);
    fault("ask 7 8 i n 3;", 8);
    fault("rest 0 9;", 5);
    fault("rest 1 0;", 7);
    SevenEights x = new SevenEights();
    due("none between ITEMS", read(x, "rest1;tell2 2;ask2 2in1;"), 3);
  }

  @Sentence(value = "or other byte that can't stand there", promises = {3})
  private static void otherBytes() {
    for (String other : BEYOND) {
      fault(other, 0);
      fault("rest 1;" + other, 7);
      fault("rest" + other + "1;", 4);
      fault("rest 1" + other + ";", 6);
      fault("ask 7" + other + "8 in 3;", 5);
      fault("ask 7 8" + other + "in 3;", 7);
      fault("ask 7 8 in" + other + "3;", 10);
      fault("as" + other + "k 7 8 in 3;", 0);
    }
    // letters and digits at the ends of their rows
    fault("a", 0);
    fault("z", 0);
    fault("0", 0);
    fault("9", 0);
    fault("askz 7", 0);
    fault("aska 7", 0);
  }

  @Sentence(value = "FAULT: the place (from 0) of the first byte of the first NAME, NUMBER or other byte", promises = {3})
  private static void thePlaceOfTheFirst() {
    fault(";", 0);
    fault("in 3;", 0);
    fault("7 8 in 3;", 0);
    fault("ask ask 7 8 in 3;", 4);
    fault("ask ; 7 8 in 3;", 4);
    fault("ask 7 in 3;", 6);
    fault("ask 7 8 3;", 8);
    fault("ask 7 8;", 7);
    fault("ask 7 8 9 in 3;", 8);
    fault("ask 7 8 in in 3;", 11);
    fault("ask 7 8 in 3 4;", 13);
    fault("ask 7 8 in 3 ask 7 8 in 3;", 13);
    fault("ask 7 8 rest 3;", 8);
    fault("tell 7 8 in 3;", 9);
    fault("tell 7;", 6);
    fault("tell;", 4);
    fault("rest 1 2;", 7);
    fault("rest;", 4);
    fault("rest rest 1;", 5);
    fault("rest 1;;", 7);
    // of two the first
    fault("ask 1 1 in 0;", 4);
    fault("rest 10 !", 5);
  }

  @Sentence(value = "or the end (how many bytes there are), if more must come", promises = {3})
  private static void whereMoreMustCome() {
    String text = "ask 7 8 in 3;tell 2 9;rest 1;";
    // by how many of its bytes there are: ITEMS, or -100 less the FAULT
    int[] want = {0, -100, -100, -103, -104, -105, -106, -107, -108, -108, -110, -111, -112, 1, -113, -113, -113, -117, -118,
      -119, -120, -121, 2, -122, -122, -122, -126, -127, -128, 3};
    for (int bytes = 0; bytes <= text.length(); bytes++) {
      SevenEights x = new SevenEights();
      due("'" + text.substring(0, bytes) + "'", read(x, text.substring(0, bytes)), want[bytes]);
    }
    fault("ask   ", 6);
    fault("tell 7 8   ", 11);
  }
}
