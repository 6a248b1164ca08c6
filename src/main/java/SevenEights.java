/**
 * Pairs of numbers in the heads of learners, as the document tells it. All rows are made with the
 * object and used again, since what a run of calls makes is counted; no call makes anything new.
 */
public final class SevenEights {
  public static final int BAD = -1, FULL = -2, NONE = -3, STATE = -4;

  // What the host refuses.
  private static final int NOTHING = -11, OUTSIDE = -12, OTHER_SORT = -13, SIZE_BELOW = -14, PARTED_BY_0 = -15;
  private static final int NO = -9, NO_ROW = -99, FEWER_ROWS = 222, FAULT_BASE = -100;

  private static final int PAIRS = 36, LEARNERS = 4, LAWS = 3, ITEMS = 12, TAPE = 200;
  private static final int SHEETS = 4, SHEET_ITEMS = 40, SHELVES = 4, TRACE = 30;
  private static final long ALL_PAIRS = (1L << PAIRS) - 1;
  private static final int MOST_FIRM = 100, MOST_RIGHTS = 9, MOST_A = 40, MOST_SECONDS = 9;

  private static final int LEARNER = 0, COUNTER = 1, PARROT = 2, AFRAID = 3, SURE = 4, GUESSER = 5, KINDS = 6;
  private static final int FORGET = 0, FLOOR = 1, SLIP = 2;
  private static final int AT_ONCE = 0, BY_A_WAY = 1, BY_A_SLIP = 2, NOT_SAID = 3;
  private static final int ASK = 0, TELL = 1, REST = 2;
  private static final int BYTES = 0, SHORTS = 1, LONGS = 3;
  private static final int SAYS = 0, LEARNS = 1, SHARES = 2, TELLS = 3;

  // The two numbers of each PAIR.
  private static final int[] LESSER = {
    2, 2, 2, 2, 2, 2, 2, 2, 3, 3, 3, 3, 3, 3, 3, 4, 4, 4, 4, 4, 4, 5, 5, 5, 5, 5, 6, 6, 6, 6, 7, 7, 7, 8, 8, 9
  };
  private static final int[] GREATER = {
    2, 3, 4, 5, 6, 7, 8, 9, 3, 4, 5, 6, 7, 8, 9, 4, 5, 6, 7, 8, 9, 5, 6, 7, 8, 9, 6, 7, 8, 9, 7, 8, 9, 8, 9, 9
  };
  private static final int[] LAW_MOST = {50, 100, 100};
  // By KIND: the one that it is under (NO: none).
  private static final int[] UNDER = {NO, LEARNER, LEARNER, PARROT, COUNTER, LEARNER};
  // By KIND: the body that an ACT begins with.
  private static final int[] SAYS_BODY = {10, 10, 30, 40, 51, 10};
  private static final int[] LEARNS_BODY = {11, 20, 11, 41, 20, 11};
  private static final int[] SHARES_BODY = {12, 12, 12, 12, 50, 61};
  private static final int[] TELLS_BODY = {13, 13, 31, 31, 13, 60};
  // No KIND has more than 7 bodies open at once (afraid tells); the guard stands above that.
  private static final int DEEPEST_BODY = 20;

  private final School school = new School();
  private final School kept = new School();
  private boolean isKept = false;
  private final Text tape = new Text();
  private final Lesson spareLesson = new Lesson();
  private final Learner spareLearner = new Learner();
  private final Answer answer = new Answer();
  private final Plan plan = new Plan();
  private final int[] slips = new int[PAIRS];
  private final Rows rows = new Rows();
  private final Rows dueRows = new Rows();
  private final Sheet[] sheets = new Sheet[SHEETS];
  private final Shelf[] shelves = new Shelf[SHELVES];
  private final Doer doer = new Doer();

  public SevenEights() {
    for (int i = 0; i < SHEETS; i++) sheets[i] = new Sheet();
    for (int i = 0; i < SHELVES; i++) shelves[i] = new Shelf();
  }

  // ---- learners

  public int feed(long eight, int n) {
    if (n < 1 || n > 8) return BAD;
    if (tape.length + n > TAPE) return FULL;
    for (int i = 0; i < n; i++) tape.append((byte) (eight >>> (8 * i)));
    return tape.length;
  }

  public int lesson() {
    boolean isRead = tape.readInto(spareLesson);
    int fault = tape.place;
    tape.length = 0;
    if (!isRead) return FAULT_BASE - fault;
    school.lesson.copyFrom(spareLesson);
    return school.lesson.count;
  }

  public int learner(int kind, int a) {
    if (kind < 0 || kind >= KINDS || !isWithin(a, MOST_A)) return BAD;
    if (school.count >= LEARNERS) return FULL;
    return school.admit(kind, a);
  }

  public int learnerOf(int learner, int what) {
    Learner who = school.learnerAt(learner);
    if (who == null) return BAD;
    switch (what) {
      case 0: return who.kind;
      case 1: return who.a;
      case 2: return who.firmSum();
      default: return BAD;
    }
  }

  public int pair(int a, int b) {
    return pairAt(a, b);
  }

  public int pairOf(int pair, int what) {
    if (!isPair(pair)) return BAD;
    switch (what) {
      case 0: return LESSER[pair];
      case 1: return GREATER[pair];
      case 2: return product(pair);
      case 3: return firmAtFirst(pair);
      default: return BAD;
    }
  }

  public long tied(int pair) {
    if (!isPair(pair)) return BAD;
    long set = 0;
    for (int side = 0; side < 4; side++) {
      int next = nextDoor(pair, side);
      if (next >= 0) set |= 1L << next;
    }
    return set;
  }

  public int head(int learner, int pair, int what) {
    Learner who = school.learnerAt(learner);
    if (who == null || !isPair(pair)) return BAD;
    switch (what) {
      case 0: return who.firm[pair];
      case 1: return who.rights[pair];
      case 2: return who.latest[pair];
      case 3: return who.box(pair);
      case 4: return who.due(pair);
      default: return BAD;
    }
  }

  public int firm(int learner, int pair, int v) {
    Learner who = school.learnerAt(learner);
    if (who == null || !isPair(pair) || !isWithin(v, MOST_FIRM)) return BAD;
    int before = who.firm[pair];
    who.firm[pair] = v;
    return before;
  }

  public int rights(int learner, int pair, int v) {
    Learner who = school.learnerAt(learner);
    if (who == null || !isPair(pair) || !isWithin(v, MOST_RIGHTS)) return BAD;
    int before = who.rights[pair];
    who.rights[pair] = v;
    return before;
  }

  public int set(int law, int v) {
    if (law < 0 || law >= LAWS || !isWithin(v, LAW_MOST[law])) return BAD;
    int before = school.laws[law];
    school.laws[law] = v;
    return before;
  }

  public int day() {
    return school.day;
  }

  // ---- what is said

  public int feel(int learner, int pair, int t) {
    Learner who = school.learnerAt(learner);
    if (who == null || !isPair(pair) || !isSeconds(t)) return BAD;
    return who.feeling(pair, t);
  }

  public int would(int learner, int pair, int t, int what) {
    Learner who = school.learnerAt(learner);
    if (who == null || !isPair(pair) || !isSeconds(t) || !isWithin(what, 3)) return BAD;
    answer.find(who, pair, t, school.laws);
    switch (what) {
      case 0: return answer.said;
      case 1: return answer.how;
      case 2: return answer.seconds;
      default: return answer.by;
    }
  }

  public int ask(int learner, int pair, int t) {
    Learner who = school.learnerAt(learner);
    if (who == null || !isPair(pair) || !isSeconds(t)) return BAD;
    answer.find(who, pair, t, school.laws);
    who.keepAnswer(answer, pair, school.day);
    return answer.said;
  }

  public int tell(int learner, int pair) {
    Learner who = school.learnerAt(learner);
    if (who == null || !isPair(pair)) return BAD;
    who.hear(pair);
    return who.firm[pair];
  }

  public int nights(int n) {
    if (!isWithin(n, 30)) return BAD;
    school.rest(n);
    return school.day;
  }

  public int card(int learner) {
    Learner who = school.learnerAt(learner);
    if (who == null) return BAD;
    int first = 0;
    for (int pair = 1; pair < PAIRS; pair++) {
      if (who.due(pair) < who.due(first)) first = pair;
    }
    return who.due(first) > school.day ? NONE : first;
  }

  // ---- what is known

  public long known(int learner, int t) {
    Learner who = school.learnerAt(learner);
    if (who == null || !isSeconds(t)) return BAD;
    return knownSet(who, t);
  }

  public long friday(int learner, int n, int t) {
    Learner who = school.learnerAt(learner);
    if (who == null || !isWithin(n, 30) || !isSeconds(t)) return BAD;
    spareLearner.copyFrom(who);
    spareLearner.sleep(n, school.laws[FORGET]);
    return ALL_PAIRS & ~knownSet(spareLearner, t);
  }

  public int odds(int t, int part) {
    if (!isSeconds(t) || !isWithin(part, 1)) return BAD;
    if (school.count == 0) return NONE;
    int above = 0;
    for (int i = 0; i < school.count; i++) above += Long.bitCount(knownSet(school.learners[i], t));
    int below = school.count * PAIRS;
    int divisor = commonDivisor(above, below);
    return (part == 0 ? above : below) / divisor;
  }

  public int best(int learner, int n, int nights, int what) {
    Learner who = school.learnerAt(learner);
    if (who == null || n < 1 || n > 2 || !isWithin(nights, 9) || !isWithin(what, 1)) return BAD;
    plan.weigh(who, nights, school.laws[FORGET]);
    if (n == 1) {
      plan.chooseOne();
    } else {
      plan.chooseTwo();
    }
    return what == 0 ? plan.untold + plan.gain : plan.first;
  }

  public int till(int learner, int pair, int level) {
    Learner who = school.learnerAt(learner);
    if (who == null || !isPair(pair) || !isWithin(level, MOST_FIRM)) return BAD;
    int firm = who.firm[pair];
    int times = 0;
    // FIRM grows each time until it is 100, so 99 times are more than can be needed.
    while (times < 99 && firm < level) {
      firm = firmWhenTold(firm);
      times++;
    }
    return times;
  }

  public int hardest(int t) {
    if (!isSeconds(t)) return BAD;
    if (school.count == 0) return NONE;
    int least = 0;
    int fewest = LEARNERS + 1;
    for (int pair = 0; pair < PAIRS; pair++) {
      int knowing = howManyKnow(pair, t);
      if (knowing < fewest) {
        fewest = knowing;
        least = pair;
      }
    }
    return least;
  }

  public int draws(int learner, int t, int what) {
    Learner who = school.learnerAt(learner);
    if (who == null || !isSeconds(t) || !isWithin(what, 1)) return BAD;
    countSlips(who, t);
    int most = 0;
    for (int pair = 1; pair < PAIRS; pair++) {
      if (slips[pair] > slips[most]) most = pair;
    }
    if (slips[most] == 0) return NONE;
    return what == 0 ? most : slips[most];
  }

  // ---- lessons

  public int give(int learner) {
    Learner who = school.learnerAt(learner);
    if (who == null) return BAD;
    int products = 0;
    for (int i = 0; i < school.lesson.count; i++) {
      int about = school.lesson.about[i];
      switch (school.lesson.sorts[i]) {
        case ASK:
          answer.find(who, about, school.lesson.seconds[i], school.laws);
          who.keepAnswer(answer, about, school.day);
          if (answer.isProduct()) products++;
          break;
        case TELL:
          who.hear(about);
          break;
        default:
          school.rest(about);
      }
    }
    return products;
  }

  public int item(int i, int what) {
    if (!isWithin(what, 2)) return BAD;
    if (i < 0 || i >= school.lesson.count) return NONE;
    switch (what) {
      case 0: return school.lesson.sorts[i];
      case 1: return school.lesson.about[i];
      default: return school.lesson.seconds[i];
    }
  }

  public int seed(int v) {
    int before = school.z;
    school.z = v;
    return before;
  }

  public int draw(int learner, int t) {
    Learner who = school.learnerAt(learner);
    if (who == null || !isSeconds(t)) return BAD;
    long unknown = ALL_PAIRS & ~knownSet(who, t);
    int many = Long.bitCount(unknown);
    if (many == 0) return NONE;
    school.z = school.z * 1103515245 + 12345;
    return memberAt(unknown, (school.z >>> 16) % many);
  }

  // ---- rows

  public int prove(int learner) {
    Learner who = school.learnerAt(learner);
    if (who == null) return BAD;
    fillRows(rows, who);
    return rows.count;
  }

  public int row(int i, int what) {
    int at = rows.placeOf(i, what);
    return at < 0 ? NO_ROW : rows.numbers[at];
  }

  public int alterRow(int i, int what, int v) {
    int at = rows.placeOf(i, what);
    if (at < 0) return NO_ROW;
    int before = rows.numbers[at];
    rows.numbers[at] = v;
    return before;
  }

  public int judge(int learner) {
    Learner who = school.learnerAt(learner);
    if (who == null) return BAD;
    fillRows(dueRows, who);
    for (int i = 0; i < rows.count; i++) {
      if (!rows.isSameAt(i, dueRows)) return i + 1;
    }
    return rows.count < dueRows.count ? FEWER_ROWS : 0;
  }

  public int firms(int sheet, int i, int learner, int pair, int n) {
    Learner who = school.learnerAt(learner);
    if (!isSheet(sheet) || who == null || !isPair(pair)) return BAD;
    if (!isWithin(n, PAIRS - pair)) return BAD;
    Sheet from = sheets[sheet];
    if (from.isMissing()) return NOTHING;
    if (from.sort != BYTES) return OTHER_SORT;
    if (i < 0 || i > from.length || n > from.length - i) return OUTSIDE;
    for (int k = 0; k < n; k++) {
      int v = (int) from.items[i + k];
      who.firm[pair + k] = Math.max(0, Math.min(MOST_FIRM, v));
    }
    return n;
  }

  // ---- the host

  public int sheet(int sheet, int sort, int n) {
    if (!isSheet(sheet) || sort < -1 || sort > LONGS) return BAD;
    if (sort == -1) {
      sheets[sheet].lose();
      return 1;
    }
    if (n > SHEET_ITEMS) return BAD;
    if (n < 0) return SIZE_BELOW;
    sheets[sheet].become(sort, n);
    return 1;
  }

  public int put(int sheet, int i, int v) {
    if (!isSheet(sheet)) return BAD;
    Sheet into = sheets[sheet];
    if (into.isMissing()) return NOTHING;
    if (i < 0 || i >= into.length) return OUTSIDE;
    into.items[i] = into.narrowed(v);
    return 1;
  }

  public int number(int sheet, int sort, int i) {
    if (!isSheet(sheet) || !isWithin(sort, LONGS)) return BAD;
    Sheet from = sheets[sheet];
    if (from.isMissing()) return NOTHING;
    if (from.sort != sort) return OTHER_SORT;
    if (i < 0 || i >= from.length) return OUTSIDE;
    return (int) from.items[i];
  }

  public int shelf(int shelf, int what, int n) {
    if (!isShelf(shelf)) return BAD;
    switch (what) {
      case 0:
        if (school.learnerAt(n) == null) return BAD;
        shelves[shelf].holdLearner(n);
        return 1;
      case 1:
        if (!isSheet(n)) return BAD;
        shelves[shelf].holdRow(sheets[n]);
        return 1;
      case 2:
        shelves[shelf].holdNothing();
        return 1;
      default:
        return BAD;
    }
  }

  public int taken(int shelf, int as) {
    boolean isKind = as >= 0 && as < KINDS;
    boolean isSort = as >= 10 && as <= 10 + LONGS;
    if (!isShelf(shelf) || !isKind && !isSort) return BAD;
    Shelf from = shelves[shelf];
    if (from.holdsRow()) return isSort && from.sort == as - 10 ? from.length : OTHER_SORT;
    Learner who = school.learnerAt(from.learner);
    if (who == null) return NOTHING;
    return isKind && isUnder(who.kind, as) ? from.learner : OTHER_SORT;
  }

  public int act(int shelf, int act, int x) {
    doer.clear();
    if (!isShelf(shelf) || !isWithin(act, TELLS)) return 0;
    Shelf from = shelves[shelf];
    // A SHELF with a row or nothing names no LEARNER.
    Learner who = school.learnerAt(from.learner);
    if (who == null) return 0;
    doer.become(who.kind, from.learner, who.a);
    int answered = run(doer, doer.bodyOf(act), x, 0);
    return doer.isParted ? PARTED_BY_0 : answered;
  }

  public int trace(int i) {
    return i < 0 || i >= doer.count ? NONE : doer.bodies[i];
  }

  public int many(int what) {
    switch (what) {
      case 0: return school.count;
      case 1: return school.lesson.count;
      case 2: return rows.count;
      case 3: return tape.length;
      case 4: return doer.count;
      default: return BAD;
    }
  }

  // ---- kept

  public int keep() {
    kept.copyFrom(school);
    isKept = true;
    return 1;
  }

  public int again() {
    if (!isKept) return NONE;
    school.copyFrom(kept);
    return school.count;
  }

  // ---- what the calls share

  private static boolean isWithin(int v, int most) {
    return v >= 0 && v <= most;
  }

  private static boolean isPair(int pair) {
    return pair >= 0 && pair < PAIRS;
  }

  private static boolean isSeconds(int t) {
    return t >= 1 && t <= MOST_SECONDS;
  }

  private static boolean isSheet(int sheet) {
    return sheet >= 0 && sheet < SHEETS;
  }

  private static boolean isShelf(int shelf) {
    return shelf >= 0 && shelf < SHELVES;
  }

  /** The PAIR of two numbers in any order, or BAD. */
  private static int pairAt(int a, int b) {
    int low = Math.min(a, b);
    int high = Math.max(a, b);
    if (low < 2 || high > 9) return BAD;
    // Ahead of those with the lesser number low stand 8 with 2, 7 with 3 and so on.
    return (low - 2) * (19 - low) / 2 + high - low;
  }

  private static int product(int pair) {
    return LESSER[pair] * GREATER[pair];
  }

  /** The PAIR with a less 1, a and 1 more, b less 1, b and 1 more (side 0 to 3), or BAD. */
  private static int nextDoor(int pair, int side) {
    int a = LESSER[pair];
    int b = GREATER[pair];
    switch (side) {
      case 0: return pairAt(a - 1, b);
      case 1: return pairAt(a + 1, b);
      case 2: return pairAt(a, b - 1);
      default: return pairAt(a, b + 1);
    }
  }

  private static int firmAtFirst(int pair) {
    int a = LESSER[pair];
    int b = GREATER[pair];
    if (a == 2) return 80;
    if (a == 5 || b == 5) return 70;
    if (a == b) return 60;
    return 60 - a * b / 2;
  }

  private static int firmWhenTold(int firm) {
    return Math.min(MOST_FIRM, firm + (MOST_FIRM - firm) / 6 + 1);
  }

  private static int firmBehindNights(int firm, int rights, int nights, int forget) {
    int then = firm;
    for (int i = 0; i < nights; i++) then -= then * forget / (100 * (rights + 1));
    return then;
  }

  /** The greatest number by which both can be divided; below is above 0. */
  private static int commonDivisor(int above, int below) {
    for (int d = below; d > 1; d--) {
      if (above % d == 0 && below % d == 0) return d;
    }
    return 1;
  }

  private static boolean isUnder(int kind, int as) {
    int up = kind;
    for (int i = 0; i < KINDS && up >= 0; i++) {
      if (up == as) return true;
      up = UNDER[up];
    }
    return false;
  }

  private long knownSet(Learner who, int t) {
    long set = 0;
    for (int pair = 0; pair < PAIRS; pair++) {
      answer.find(who, pair, t, school.laws);
      if (answer.isProduct()) set |= 1L << pair;
    }
    return set;
  }

  /** The PAIR at a place (from 0) of a set, by numbers; the set has more than that. */
  private static int memberAt(long set, int place) {
    int left = place;
    for (int pair = 0; pair < PAIRS; pair++) {
      if ((set >>> pair & 1) == 1) {
        if (left == 0) return pair;
        left--;
      }
    }
    return NONE;
  }

  private int howManyKnow(int pair, int t) {
    int knowing = 0;
    for (int i = 0; i < school.count; i++) {
      answer.find(school.learners[i], pair, t, school.laws);
      if (answer.isProduct()) knowing++;
    }
    return knowing;
  }

  private void countSlips(Learner who, int t) {
    for (int pair = 0; pair < PAIRS; pair++) slips[pair] = 0;
    for (int pair = 0; pair < PAIRS; pair++) {
      answer.find(who, pair, t, school.laws);
      if (answer.how == BY_A_SLIP) slips[answer.by]++;
    }
  }

  /** ROWS of THE LESSON, GIVEN to one who is like the LEARNER, so that nothing changes. */
  private void fillRows(Rows into, Learner who) {
    Learner like = spareLearner;
    like.copyFrom(who);
    int day = school.day;
    into.count = 0;
    for (int i = 0; i < school.lesson.count; i++) {
      int about = school.lesson.about[i];
      switch (school.lesson.sorts[i]) {
        case ASK:
          answer.find(like, about, school.lesson.seconds[i], school.laws);
          like.keepAnswer(answer, about, day);
          into.append(about, answer.said, answer.seconds);
          break;
        case TELL:
          like.hear(about);
          break;
        default:
          like.sleep(about, school.laws[FORGET]);
          day += about;
      }
    }
  }

  /** Runs a body; super is a body by its number, another ACT of the same thing goes by its KIND. */
  private static int run(Doer doer, int body, int x, int depth) {
    if (depth > DEEPEST_BODY || !doer.begin(body)) return 0;
    int n = doer.n;
    int a = doer.a;
    int deeper = depth + 1;
    switch (body) {
      case 10: return x + n;
      case 11: return run(doer, doer.bodyOf(SAYS), x, deeper) * 2;
      case 12: return doer.partEvenly(x);
      case 13: return run(doer, doer.bodyOf(LEARNS), x, deeper) ^ a;
      case 20: return run(doer, 11, x, deeper) - a;
      case 30: return run(doer, 10, x, deeper) * 3;
      case 31: return run(doer, 13, x, deeper) + run(doer, doer.bodyOf(SHARES), n, deeper);
      case 40: return 0 - run(doer, 30, x, deeper);
      case 41: return run(doer, 11, x, deeper) + run(doer, doer.bodyOf(SAYS), n, deeper);
      case 50: return run(doer, 12, x + 2, deeper) ^ 1;
      case 51: return run(doer, 10, x, deeper) - n;
      case 60: return run(doer, 13, x, deeper) * 2;
      case 61: return run(doer, 12, x, deeper) + run(doer, doer.bodyOf(SAYS), a, deeper);
      default: return 0;
    }
  }

  /** A LEARNER with what is in its head. */
  private static final class Learner {
    int kind = LEARNER;
    int a = 0;
    final int[] firm = new int[PAIRS];
    final int[] rights = new int[PAIRS];
    final int[] latest = new int[PAIRS];

    void start(int kindNow, int aNow) {
      kind = kindNow;
      a = aNow;
      for (int pair = 0; pair < PAIRS; pair++) {
        firm[pair] = firmAtFirst(pair);
        rights[pair] = 0;
        latest[pair] = NO;
      }
    }

    void copyFrom(Learner other) {
      kind = other.kind;
      a = other.a;
      System.arraycopy(other.firm, 0, firm, 0, PAIRS);
      System.arraycopy(other.rights, 0, rights, 0, PAIRS);
      System.arraycopy(other.latest, 0, latest, 0, PAIRS);
    }

    int firmSum() {
      int sum = 0;
      for (int pair = 0; pair < PAIRS; pair++) sum += firm[pair];
      return sum;
    }

    int feeling(int pair, int t) {
      if (kind == AFRAID && t < 3) return Math.max(0, firm[pair] - a);
      if (kind == SURE) return Math.min(MOST_FIRM, firm[pair] + a);
      return firm[pair];
    }

    int takes(int pair, int t) {
      return takesBy(feeling(pair, t));
    }

    boolean isAtOnce(int pair, int t, int floor) {
      int feeling = feeling(pair, t);
      return feeling >= floor && takesBy(feeling) <= t;
    }

    private static int takesBy(int feeling) {
      return 1 + (100 - feeling) / 15;
    }

    /** STEP, or NO for those who go no WAY. */
    int step() {
      switch (kind) {
        case PARROT:
        case AFRAID:
          return NO;
        case COUNTER:
        case SURE:
          return 1;
        default:
          return 2;
      }
    }

    void hear(int pair) {
      firm[pair] = firmWhenTold(firm[pair]);
    }

    /** What being ASKED does to the head, once it is clear what is said. */
    void keepAnswer(Answer answer, int pair, int day) {
      if (answer.isProduct()) {
        firm[pair] = Math.min(MOST_FIRM, firm[pair] + (MOST_FIRM - firm[pair]) / 4 + 1);
        // No DAY is below 0, so a PAIR that was never asked (NO) counts, too.
        if (day != latest[pair]) rights[pair] = Math.min(MOST_RIGHTS, rights[pair] + 1);
      } else if (answer.how == BY_A_SLIP) {
        firm[pair] = Math.max(0, firm[pair] - 1);
        firm[answer.by] = Math.min(MOST_FIRM, firm[answer.by] + 1);
      }
      latest[pair] = day;
    }

    void sleep(int nights, int forget) {
      for (int pair = 0; pair < PAIRS; pair++) {
        firm[pair] = firmBehindNights(firm[pair], rights[pair], nights, forget);
      }
    }

    int box(int pair) {
      return Math.min(5, 1 + rights[pair] / 2);
    }

    int due(int pair) {
      if (latest[pair] == NO) return 0;
      return latest[pair] + (1 << (box(pair) - 1));
    }
  }

  /** What a LEARNER would say of a PAIR; one is made and found anew for each question. */
  private static final class Answer {
    int said = NO;
    int how = NOT_SAID;
    int seconds = 0;
    int by = NO;

    void find(Learner who, int pair, int t, int[] laws) {
      if (who.isAtOnce(pair, t, laws[FLOOR])) {
        become(product(pair), AT_ONCE, who.takes(pair, t), NO);
        return;
      }
      int way = wayRound(who, pair, t, laws[FLOOR]);
      if (way >= 0) {
        int left = t - who.step();
        become(product(pair), BY_A_WAY, who.takes(way, left) + who.step(), way);
        return;
      }
      int slip = firmestTied(who, pair, t);
      boolean isSlip = slip >= 0 && (who.kind == GUESSER || who.feeling(slip, t) >= laws[SLIP]);
      if (isSlip) {
        become(product(slip), BY_A_SLIP, t, slip);
      } else {
        become(NO, NOT_SAID, t, NO);
      }
    }

    boolean isProduct() {
      return how == AT_ONCE || how == BY_A_WAY;
    }

    private void become(int saidNow, int howNow, int secondsNow, int byNow) {
      said = saidNow;
      how = howNow;
      seconds = secondsNow;
      by = byNow;
    }

    private static int wayRound(Learner who, int pair, int t, int floor) {
      int step = who.step();
      int left = t - step;
      if (step == NO || left < 1) return NO;
      int lessA = nextDoor(pair, 0);
      if (lessA >= 0 && who.isAtOnce(lessA, left, floor)) return lessA;
      int lessB = nextDoor(pair, 2);
      if (lessB >= 0 && who.isAtOnce(lessB, left, floor)) return lessB;
      return NO;
    }

    private static int firmestTied(Learner who, int pair, int t) {
      int firmest = NO;
      int most = -1;
      for (int side = 0; side < 4; side++) {
        int next = nextDoor(pair, side);
        if (next < 0) continue;
        int feeling = who.feeling(next, t);
        if (feeling > most || feeling == most && next < firmest) {
          firmest = next;
          most = feeling;
        }
      }
      return firmest;
    }
  }

  /** All that is kept: LEARNERS, LAWS, the DAY, z and THE LESSON. */
  private static final class School {
    final Learner[] learners = new Learner[LEARNERS];
    int count = 0;
    final int[] laws = {10, 40, 30};
    int day = 0;
    int z = 1;
    final Lesson lesson = new Lesson();

    School() {
      for (int i = 0; i < LEARNERS; i++) learners[i] = new Learner();
    }

    /** The LEARNER of a number, or null. */
    Learner learnerAt(int number) {
      return number < 0 || number >= count ? null : learners[number];
    }

    /** Takes in one more, where fewer than 4 are there. */
    int admit(int kind, int a) {
      int number = count;
      learners[number].start(kind, a);
      count++;
      return number;
    }

    void rest(int nights) {
      for (int i = 0; i < count; i++) learners[i].sleep(nights, laws[FORGET]);
      day += nights;
    }

    void copyFrom(School other) {
      count = other.count;
      for (int i = 0; i < count; i++) learners[i].copyFrom(other.learners[i]);
      System.arraycopy(other.laws, 0, laws, 0, LAWS);
      day = other.day;
      z = other.z;
      lesson.copyFrom(other.lesson);
    }
  }

  /** ITEMS: of each its sort, what it is about (the PAIR, or NIGHTS of a rest) and SECONDS. */
  private static final class Lesson {
    final int[] sorts = new int[ITEMS];
    final int[] about = new int[ITEMS];
    final int[] seconds = new int[ITEMS];
    int count = 0;

    void append(int sort, int aboutWhat, int inSeconds) {
      if (count >= ITEMS) return;
      sorts[count] = sort;
      about[count] = aboutWhat;
      seconds[count] = inSeconds;
      count++;
    }

    void copyFrom(Lesson other) {
      System.arraycopy(other.sorts, 0, sorts, 0, ITEMS);
      System.arraycopy(other.about, 0, about, 0, ITEMS);
      System.arraycopy(other.seconds, 0, seconds, 0, ITEMS);
      count = other.count;
    }
  }

  /**
   * THE TAPE and its reading. Whatever can't be taken leaves place at its first byte, or at the end
   * if more must come: so the place where reading stopped is the FAULT.
   */
  private static final class Text {
    private final byte[] bytes = new byte[TAPE];
    int length = 0;
    int place = 0;

    void append(byte b) {
      if (length >= TAPE) return;
      bytes[length] = b;
      length++;
    }

    /** Whether all of it is ITEMS, 12 at most. */
    boolean readInto(Lesson lesson) {
      lesson.count = 0;
      place = 0;
      for (int i = 0; i < ITEMS; i++) {
        skipBlanks();
        if (place >= length) return true;
        if (!readItem(lesson)) return false;
      }
      skipBlanks();
      return place >= length;
    }

    private boolean readItem(Lesson lesson) {
      if (isNextName("ask")) return readAsk(lesson);
      if (isNextName("tell")) return readTell(lesson);
      if (isNextName("rest")) return readRest(lesson);
      return false;
    }

    private boolean readAsk(Lesson lesson) {
      int pair = readPair();
      if (pair < 0 || !isNextName("in")) return false;
      int t = readNumber(1, MOST_SECONDS);
      if (t < 0 || !isNextSemicolon()) return false;
      lesson.append(ASK, pair, t);
      return true;
    }

    private boolean readTell(Lesson lesson) {
      int pair = readPair();
      if (pair < 0 || !isNextSemicolon()) return false;
      lesson.append(TELL, pair, 0);
      return true;
    }

    private boolean readRest(Lesson lesson) {
      int nights = readNumber(1, 9);
      if (nights < 0 || !isNextSemicolon()) return false;
      lesson.append(REST, nights, 0);
      return true;
    }

    private int readPair() {
      int a = readNumber(2, 9);
      if (a < 0) return BAD;
      int b = readNumber(2, 9);
      if (b < 0) return BAD;
      return pairAt(a, b);
    }

    /** Takes a NUMBER of 1 or 2 digits from least to most, or answers BAD. */
    private int readNumber(int least, int most) {
      skipBlanks();
      int end = endOfRow('0', '9');
      int digits = end - place;
      if (digits < 1 || digits > 2) return BAD;
      int v = 0;
      for (int i = place; i < end; i++) v = v * 10 + bytes[i] - '0';
      if (v < least || v > most) return BAD;
      place = end;
      return v;
    }

    /** Takes a NAME if it is next, as long as it goes. */
    private boolean isNextName(String name) {
      skipBlanks();
      int end = endOfRow('a', 'z');
      if (end - place != name.length()) return false;
      for (int i = 0; i < name.length(); i++) {
        if (bytes[place + i] != name.charAt(i)) return false;
      }
      place = end;
      return true;
    }

    private boolean isNextSemicolon() {
      skipBlanks();
      if (place >= length || bytes[place] != ';') return false;
      place++;
      return true;
    }

    private int endOfRow(char least, char most) {
      int end = place;
      while (end < length && bytes[end] >= least && bytes[end] <= most) end++;
      return end;
    }

    private void skipBlanks() {
      while (place < length && bytes[place] == ' ') place++;
    }
  }

  /** ROWS, three numbers each. */
  private static final class Rows {
    final int[] numbers = new int[3 * ITEMS];
    int count = 0;

    void append(int pair, int said, int seconds) {
      if (count >= ITEMS) return;
      numbers[3 * count] = pair;
      numbers[3 * count + 1] = said;
      numbers[3 * count + 2] = seconds;
      count++;
    }

    /** Where a number of a ROW stands, or NO. */
    int placeOf(int i, int what) {
      return i < 0 || i >= count || !isWithin(what, 2) ? NO : 3 * i + what;
    }

    /** Whether ROW i is there in both, with the same numbers. */
    boolean isSameAt(int i, Rows other) {
      if (i < 0 || i >= count || i >= other.count) return false;
      for (int k = 3 * i; k < 3 * i + 3; k++) {
        if (numbers[k] != other.numbers[k]) return false;
      }
      return true;
    }
  }

  /**
   * What to tell a LEARNER first. A PAIR that is TOLD changes its own FIRM alone, so what it brings
   * behind the NIGHTS is weighed for each PAIR by itself; a row may name one PAIR twice.
   */
  private static final class Plan {
    private final int[] once = new int[PAIRS];
    private final int[] twice = new int[PAIRS];
    int untold = 0;
    int gain = 0;
    int first = 0;

    void weigh(Learner who, int nights, int forget) {
      untold = 0;
      for (int pair = 0; pair < PAIRS; pair++) {
        int rights = who.rights[pair];
        int toldOnce = firmWhenTold(who.firm[pair]);
        int toldTwice = firmWhenTold(toldOnce);
        int then = firmBehindNights(who.firm[pair], rights, nights, forget);
        untold += then;
        once[pair] = firmBehindNights(toldOnce, rights, nights, forget) - then;
        twice[pair] = firmBehindNights(toldTwice, rights, nights, forget) - then;
      }
    }

    void chooseOne() {
      gain = -1;
      for (int pair = 0; pair < PAIRS; pair++) offer(pair, once[pair]);
    }

    void chooseTwo() {
      gain = -1;
      for (int pair = 0; pair < PAIRS; pair++) {
        offer(pair, twice[pair]);
        // A row counts as much the other way round: so the lesser one goes first.
        for (int other = pair + 1; other < PAIRS; other++) offer(pair, once[pair] + once[other]);
      }
    }

    private void offer(int pair, int brings) {
      if (brings > gain) {
        gain = brings;
        first = pair;
      }
    }
  }

  /** A SHEET's row; numbers of all sorts are held as longs that were narrowed before. */
  private static final class Sheet {
    int sort = -1;
    int length = 0;
    final long[] items = new long[SHEET_ITEMS];

    boolean isMissing() {
      return sort == -1;
    }

    void lose() {
      sort = -1;
      length = 0;
    }

    void become(int sortNow, int lengthNow) {
      sort = sortNow;
      length = lengthNow;
      for (int i = 0; i < SHEET_ITEMS; i++) items[i] = 0;
    }

    long narrowed(int v) {
      if (sort == BYTES) return (byte) v;
      if (sort == SHORTS) return (short) v;
      return v;
    }
  }

  /**
   * A SHELF. Of a row only its sort and how many items it has are ever told: these are held, and so
   * the row stays what it was when its SHEET becomes another one.
   */
  private static final class Shelf {
    int learner = NO;
    int sort = -1;
    int length = 0;

    boolean holdsRow() {
      return sort != -1;
    }

    void holdNothing() {
      learner = NO;
      sort = -1;
      length = 0;
    }

    void holdLearner(int number) {
      holdNothing();
      learner = number;
    }

    void holdRow(Sheet sheet) {
      learner = NO;
      sort = sheet.sort;
      length = sheet.length;
    }
  }

  /** A thing that does an ACT, with THE TRACE of it. */
  private static final class Doer {
    private int kind = LEARNER;
    int n = 0;
    int a = 0;
    boolean isParted = false;
    final int[] bodies = new int[TRACE];
    int count = 0;

    void clear() {
      count = 0;
      isParted = false;
    }

    void become(int kindNow, int nNow, int aNow) {
      kind = kindNow;
      n = nNow;
      a = aNow;
    }

    int bodyOf(int what) {
      switch (what) {
        case SAYS: return SAYS_BODY[kind];
        case LEARNS: return LEARNS_BODY[kind];
        case SHARES: return SHARES_BODY[kind];
        default: return TELLS_BODY[kind];
      }
    }

    /** Notes a body in THE TRACE; none begins any more behind a parting by 0. */
    boolean begin(int body) {
      if (isParted) return false;
      if (count < TRACE) {
        bodies[count] = body;
        count++;
      }
      return true;
    }

    int partEvenly(int x) {
      int parts = a - n;
      isParted = parts == 0;
      return parts == 0 ? 0 : x / parts;
    }
  }
}
