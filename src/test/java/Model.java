import java.util.ArrayList;
import java.util.Arrays;
import java.util.List;
import java.util.TreeMap;

/**
 * The document once more, written the long way round (classes with super, rows of their own sort,
 * every row of PAIRS tried out), so that ModelTest can hold SevenEights against it.
 */
final class Model {
  private static final int NONE = -3;

  // ---- things of kinds with acts

  private static class Thing {
    final int n, a;
    List<Integer> trace = new ArrayList<>();
    Thing(int n, int a) { this.n = n; this.a = a; }
    int says(int x) { trace.add(10); return x + n; }
    int learns(int x) { trace.add(11); return says(x) * 2; }
    int shares(int x) { trace.add(12); return x / (a - n); }
    int tells(int x) { trace.add(13); return learns(x) ^ a; }
    int feel(int firm, int t) { return firm; }
    int step() { return 2; }
    boolean slips(int feel, int slip) { return feel >= slip; }
  }

  private static class Counter extends Thing {
    Counter(int n, int a) { super(n, a); }
    @Override int learns(int x) { trace.add(20); return super.learns(x) - a; }
    @Override int step() { return 1; }
  }

  private static class Parrot extends Thing {
    Parrot(int n, int a) { super(n, a); }
    @Override int says(int x) { trace.add(30); return super.says(x) * 3; }
    @Override int tells(int x) { trace.add(31); return super.tells(x) + shares(n); }
    @Override int step() { return 1000; }
  }

  private static class Afraid extends Parrot {
    Afraid(int n, int a) { super(n, a); }
    @Override int says(int x) { trace.add(40); return 0 - super.says(x); }
    @Override int learns(int x) { trace.add(41); return super.learns(x) + says(n); }
    @Override int feel(int firm, int t) { return t < 3 ? (firm < a ? 0 : firm - a) : firm; }
  }

  private static class Sure extends Counter {
    Sure(int n, int a) { super(n, a); }
    @Override int shares(int x) { trace.add(50); return super.shares(x + 2) ^ 1; }
    @Override int says(int x) { trace.add(51); return super.says(x) - n; }
    @Override int feel(int firm, int t) { return firm + a > 100 ? 100 : firm + a; }
  }

  private static class Guesser extends Thing {
    Guesser(int n, int a) { super(n, a); }
    @Override int tells(int x) { trace.add(60); return super.tells(x) * 2; }
    @Override int shares(int x) { trace.add(61); return super.shares(x) + says(a); }
    @Override boolean slips(int feel, int slip) { return true; }
  }

  private static Thing thing(int kind, int n, int a) {
    return switch (kind) {
      case 0 -> new Thing(n, a);
      case 1 -> new Counter(n, a);
      case 2 -> new Parrot(n, a);
      case 3 -> new Afraid(n, a);
      case 4 -> new Sure(n, a);
      default -> new Guesser(n, a);
    };
  }

  private static boolean isOf(Thing thing, int kind) {
    return switch (kind) {
      case 0 -> true;
      case 1 -> thing instanceof Counter;
      case 2 -> thing instanceof Parrot;
      case 3 -> thing instanceof Afraid;
      case 4 -> thing instanceof Sure;
      default -> thing instanceof Guesser;
    };
  }

  // ---- what is kept

  private record Item(int sort, int about, int seconds) {}

  private static final class Mind {
    int kind, n, a;
    int[] firm = new int[36], rights = new int[36];
    Integer[] latest = new Integer[36];
    Mind copy() {
      Mind m = new Mind();
      m.kind = kind; m.n = n; m.a = a;
      m.firm = firm.clone(); m.rights = rights.clone(); m.latest = latest.clone();
      return m;
    }
    Thing thing() { return Model.thing(kind, n, a); }
  }

  private static final class World {
    List<Mind> minds = new ArrayList<>();
    int[] laws = {10, 40, 30};
    int day = 0, z = 1;
    List<Item> lesson = new ArrayList<>();
    World copy() {
      World w = new World();
      for (Mind m : minds) w.minds.add(m.copy());
      w.laws = laws.clone();
      w.day = day; w.z = z;
      w.lesson = new ArrayList<>(lesson);
      return w;
    }
  }

  private World w = new World(), kept = null;
  private StringBuilder tape = new StringBuilder();
  private List<int[]> rows = new ArrayList<>();
  private final Object[] sheets = new Object[4];
  private final Object[] shelves = new Object[4];
  private List<Integer> trace = new ArrayList<>();

  // ---- pairs

  private static final List<int[]> PAIRS = new ArrayList<>();
  static {
    for (int a = 2; a <= 9; a++) for (int b = a; b <= 9; b++) PAIRS.add(new int[] {a, b});
  }

  private static int find(int a, int b) {
    for (int p = 0; p < 36; p++) {
      int[] ab = PAIRS.get(p);
      if (ab[0] == a && ab[1] == b || ab[0] == b && ab[1] == a) return p;
    }
    return -1;
  }

  private static List<Integer> tiedList(int p, int[][] moves) {
    List<Integer> all = new ArrayList<>();
    for (int[] move : moves) {
      int q = find(PAIRS.get(p)[0] + move[0], PAIRS.get(p)[1] + move[1]);
      if (q >= 0 && q != p && !all.contains(q)) all.add(q);
    }
    return all;
  }

  private static List<Integer> tiedAll(int p) {
    return tiedList(p, new int[][] {{-1, 0}, {1, 0}, {0, -1}, {0, 1}});
  }

  private static int times(int p) { return PAIRS.get(p)[0] * PAIRS.get(p)[1]; }

  private static int atFirst(int p) {
    int a = PAIRS.get(p)[0], b = PAIRS.get(p)[1];
    return a == 2 ? 80 : a == 5 || b == 5 ? 70 : a == b ? 60 : 60 - a * b / 2;
  }

  private boolean noMind(int learner) { return learner < 0 || learner >= w.minds.size(); }
  private static boolean out(int v, int least, int most) { return v < least || v > most; }

  // ---- learners

  int feed(long eight, int n) {
    if (out(n, 1, 8)) return -1;
    if (tape.length() + n > 200) return -2;
    for (int i = 0; i < n; i++) tape.append((char) (eight >> 8 * i & 255));
    return tape.length();
  }

  int lesson() {
    String text = tape.toString();
    tape = new StringBuilder();
    List<Item> items = new ArrayList<>();
    int fault = parse(text, items);
    if (fault >= 0) return -100 - fault;
    w.lesson = items;
    return items.size();
  }

  /** -1, or the FAULT. */
  private static int parse(String text, List<Item> items) {
    List<String> words = new ArrayList<>();
    List<Integer> places = new ArrayList<>();
    var m = java.util.regex.Pattern.compile("[a-z]+|[0-9]+|[^ ]", java.util.regex.Pattern.DOTALL).matcher(text);
    while (m.find()) { words.add(m.group()); places.add(m.start()); }
    places.add(text.length());
    int k = 0;
    while (k < words.size()) {
      if (items.size() == 12) return places.get(k);
      String[] shape = switch (words.get(k)) {
        case "ask" -> new String[] {"ask", "2", "2", "in", "1", ";"};
        case "tell" -> new String[] {"tell", "2", "2", ";"};
        case "rest" -> new String[] {"rest", "1", ";"};
        default -> null;
      };
      if (shape == null) return places.get(k);
      List<Integer> numbers = new ArrayList<>();
      for (String must : shape) {
        if (k == words.size()) return text.length();
        String word = words.get(k);
        boolean fits;
        if (must.equals("1") || must.equals("2")) {
          fits = word.matches("[0-9]{1,2}") && !out(Integer.parseInt(word), Integer.parseInt(must), 9);
          if (fits) numbers.add(Integer.parseInt(word));
        } else {
          fits = word.equals(must);
        }
        if (!fits) return places.get(k);
        k++;
      }
      items.add(switch (shape[0]) {
        case "ask" -> new Item(0, find(numbers.get(0), numbers.get(1)), numbers.get(2));
        case "tell" -> new Item(1, find(numbers.get(0), numbers.get(1)), 0);
        default -> new Item(2, numbers.get(0), 0);
      });
    }
    return -1;
  }

  int learner(int kind, int a) {
    if (out(kind, 0, 5) || out(a, 0, 40)) return -1;
    if (w.minds.size() == 4) return -2;
    Mind m = new Mind();
    m.kind = kind; m.a = a; m.n = w.minds.size();
    for (int p = 0; p < 36; p++) m.firm[p] = atFirst(p);
    w.minds.add(m);
    return m.n;
  }

  int learnerOf(int learner, int what) {
    if (noMind(learner) || out(what, 0, 2)) return -1;
    Mind m = w.minds.get(learner);
    return what == 0 ? m.kind : what == 1 ? m.a : Arrays.stream(m.firm).sum();
  }

  int pair(int a, int b) { return find(a, b); }

  int pairOf(int pair, int what) {
    if (out(pair, 0, 35) || out(what, 0, 3)) return -1;
    return what < 2 ? PAIRS.get(pair)[what] : what == 2 ? times(pair) : atFirst(pair);
  }

  private static long bits(List<Integer> set) {
    long all = 0;
    for (int p : set) all += 1L << p;
    return all;
  }

  long tied(int pair) { return out(pair, 0, 35) ? -1 : bits(tiedAll(pair)); }

  private static int box(Mind m, int p) {
    int r = m.rights[p];
    return r >= 8 ? 5 : r >= 6 ? 4 : r >= 4 ? 3 : r >= 2 ? 2 : 1;
  }

  private static int due(Mind m, int p) {
    return m.latest[p] == null ? 0 : m.latest[p] + new int[] {0, 1, 2, 4, 8, 16}[box(m, p)];
  }

  int head(int learner, int pair, int what) {
    if (noMind(learner) || out(pair, 0, 35) || out(what, 0, 4)) return -1;
    Mind m = w.minds.get(learner);
    return switch (what) {
      case 0 -> m.firm[pair];
      case 1 -> m.rights[pair];
      case 2 -> m.latest[pair] == null ? -9 : m.latest[pair];
      case 3 -> box(m, pair);
      default -> due(m, pair);
    };
  }

  int firm(int learner, int pair, int v) {
    if (noMind(learner) || out(pair, 0, 35) || out(v, 0, 100)) return -1;
    int was = w.minds.get(learner).firm[pair];
    w.minds.get(learner).firm[pair] = v;
    return was;
  }

  int rights(int learner, int pair, int v) {
    if (noMind(learner) || out(pair, 0, 35) || out(v, 0, 9)) return -1;
    int was = w.minds.get(learner).rights[pair];
    w.minds.get(learner).rights[pair] = v;
    return was;
  }

  int set(int law, int v) {
    if (out(law, 0, 2) || out(v, 0, law == 0 ? 50 : 100)) return -1;
    int was = w.laws[law];
    w.laws[law] = v;
    return was;
  }

  int day() { return w.day; }

  // ---- what is said

  int feel(int learner, int pair, int t) {
    if (noMind(learner) || out(pair, 0, 35) || out(t, 1, 9)) return -1;
    Mind m = w.minds.get(learner);
    return m.thing().feel(m.firm[pair], t);
  }

  /** said, how, seconds, by. */
  private int[] think(Mind m, int pair, int t) {
    Thing thing = m.thing();
    int takes = takesAtOnce(m, thing, pair, t);
    if (takes > 0) return new int[] {times(pair), 0, takes, -9};
    int left = t - thing.step();
    if (left >= 1) {
      for (int q : tiedList(pair, new int[][] {{-1, 0}, {0, -1}})) {
        takes = takesAtOnce(m, thing, q, left);
        if (takes > 0) return new int[] {times(pair), 1, takes + thing.step(), q};
      }
    }
    TreeMap<Integer, Integer> byFeel = new TreeMap<>();
    for (int q : tiedAll(pair)) byFeel.merge(thing.feel(m.firm[q], t), q, Math::min);
    int feel = byFeel.lastKey(), by = byFeel.lastEntry().getValue();
    if (thing.slips(feel, w.laws[2])) return new int[] {times(by), 2, t, by};
    return new int[] {-9, 3, t, -9};
  }

  /** 0 if it is not said at once. */
  private int takesAtOnce(Mind m, Thing thing, int p, int t) {
    int feel = thing.feel(m.firm[p], t);
    int takes = 1 + (100 - feel) / 15;
    return feel >= w.laws[1] && takes <= t ? takes : 0;
  }

  int would(int learner, int pair, int t, int what) {
    if (noMind(learner) || out(pair, 0, 35) || out(t, 1, 9) || out(what, 0, 3)) return -1;
    return think(w.minds.get(learner), pair, t)[what];
  }

  private int[] asked(Mind m, int pair, int t, int day) {
    int[] said = think(m, pair, t);
    if (said[0] == times(pair)) {
      m.firm[pair] = Math.min(100, m.firm[pair] + (100 - m.firm[pair]) / 4 + 1);
      if (m.latest[pair] == null || m.latest[pair] != day) m.rights[pair] = Math.min(9, m.rights[pair] + 1);
    } else if (said[0] != -9) {
      m.firm[pair] = Math.max(0, m.firm[pair] - 1);
      m.firm[said[3]] = Math.min(100, m.firm[said[3]] + 1);
    }
    m.latest[pair] = day;
    return said;
  }

  int ask(int learner, int pair, int t) {
    if (noMind(learner) || out(pair, 0, 35) || out(t, 1, 9)) return -1;
    return asked(w.minds.get(learner), pair, t, w.day)[0];
  }

  private static void told(Mind m, int p) { m.firm[p] = Math.min(100, m.firm[p] + (100 - m.firm[p]) / 6 + 1); }

  int tell(int learner, int pair) {
    if (noMind(learner) || out(pair, 0, 35)) return -1;
    told(w.minds.get(learner), pair);
    return w.minds.get(learner).firm[pair];
  }

  private void night(Mind m) {
    for (int p = 0; p < 36; p++) m.firm[p] -= m.firm[p] * w.laws[0] / (100 * (m.rights[p] + 1));
  }

  int nights(int n) {
    if (out(n, 0, 30)) return -1;
    for (int i = 0; i < n; i++) {
      w.day++;
      for (Mind m : w.minds) night(m);
    }
    return w.day;
  }

  int card(int learner) {
    if (noMind(learner)) return -1;
    Mind m = w.minds.get(learner);
    for (int day = 0; day <= w.day; day++) {
      for (int p = 0; p < 36; p++) if (due(m, p) == day) return p;
    }
    return NONE;
  }

  // ---- what is known

  private List<Integer> knows(Mind m, int t) {
    List<Integer> all = new ArrayList<>();
    for (int p = 0; p < 36; p++) if (think(m, p, t)[0] == times(p)) all.add(p);
    return all;
  }

  long known(int learner, int t) {
    if (noMind(learner) || out(t, 1, 9)) return -1;
    return bits(knows(w.minds.get(learner), t));
  }

  long friday(int learner, int n, int t) {
    if (noMind(learner) || out(n, 0, 30) || out(t, 1, 9)) return -1;
    Mind m = w.minds.get(learner).copy();
    for (int i = 0; i < n; i++) night(m);
    return 68719476735L - bits(knows(m, t));
  }

  int odds(int t, int part) {
    if (out(t, 1, 9) || out(part, 0, 1)) return -1;
    if (w.minds.isEmpty()) return NONE;
    int above = 0;
    for (Mind m : w.minds) above += knows(m, t).size();
    var below = java.math.BigInteger.valueOf(36L * w.minds.size());
    int gcd = below.gcd(java.math.BigInteger.valueOf(above)).intValue();
    return (part == 0 ? above : below.intValue()) / gcd;
  }

  int best(int learner, int n, int nights, int what) {
    if (noMind(learner) || out(n, 1, 2) || out(nights, 0, 9) || out(what, 0, 1)) return -1;
    int best = -1, first = -1;
    for (int p = 0; p < 36; p++) {
      for (int q = 0; q < (n == 1 ? 1 : 36); q++) {
        Mind m = w.minds.get(learner).copy();
        told(m, p);
        if (n == 2) told(m, q);
        for (int i = 0; i < nights; i++) night(m);
        int sum = Arrays.stream(m.firm).sum();
        if (sum > best) { best = sum; first = p; }
      }
    }
    return what == 0 ? best : first;
  }

  int till(int learner, int pair, int level) {
    if (noMind(learner) || out(pair, 0, 35) || out(level, 0, 100)) return -1;
    Mind m = w.minds.get(learner).copy();
    int times = 0;
    for (; m.firm[pair] < level; times++) told(m, pair);
    return times;
  }

  int hardest(int t) {
    if (out(t, 1, 9)) return -1;
    if (w.minds.isEmpty()) return NONE;
    int[] by = new int[36];
    for (Mind m : w.minds) for (int p : knows(m, t)) by[p]++;
    int fewest = Arrays.stream(by).min().getAsInt();
    for (int p = 0; p < 36; p++) if (by[p] == fewest) return p;
    return -1;
  }

  int draws(int learner, int t, int what) {
    if (noMind(learner) || out(t, 1, 9) || out(what, 0, 1)) return -1;
    int[] on = new int[36];
    for (int p = 0; p < 36; p++) {
      int[] said = think(w.minds.get(learner), p, t);
      if (said[1] == 2) on[said[3]]++;
    }
    int most = Arrays.stream(on).max().getAsInt();
    if (most == 0) return NONE;
    if (what == 1) return most;
    for (int p = 0; p < 36; p++) if (on[p] == most) return p;
    return -1;
  }

  // ---- lessons and rows

  private List<int[]> given(World world, Mind m) {
    List<int[]> out = new ArrayList<>();
    for (Item item : w.lesson) {
      if (item.sort == 0) {
        int[] said = asked(m, item.about, item.seconds, world.day);
        out.add(new int[] {item.about, said[0], said[2], said[1]});
      } else if (item.sort == 1) {
        told(m, item.about);
      } else {
        for (int i = 0; i < item.about; i++) {
          world.day++;
          for (Mind each : world.minds) night(each);
        }
      }
    }
    return out;
  }

  int give(int learner) {
    if (noMind(learner)) return -1;
    int right = 0;
    for (int[] row : given(w, w.minds.get(learner))) if (row[3] < 2) right++;
    return right;
  }

  int item(int i, int what) {
    if (out(what, 0, 2)) return -1;
    if (out(i, 0, w.lesson.size() - 1)) return NONE;
    Item item = w.lesson.get(i);
    return what == 0 ? item.sort : what == 1 ? item.about : item.seconds;
  }

  int seed(int v) {
    int was = w.z;
    w.z = v;
    return was;
  }

  int draw(int learner, int t) {
    if (noMind(learner) || out(t, 1, 9)) return -1;
    List<Integer> unknown = new ArrayList<>();
    for (int p = 0; p < 36; p++) unknown.add(p);
    unknown.removeAll(knows(w.minds.get(learner), t));
    if (unknown.isEmpty()) return NONE;
    w.z = w.z * 1103515245 + 12345;
    return unknown.get((w.z >>> 16) % unknown.size());
  }

  private List<int[]> proven(int learner) {
    World like = w.copy();
    return given(like, like.minds.get(learner));
  }

  int prove(int learner) {
    if (noMind(learner)) return -1;
    rows = proven(learner);
    return rows.size();
  }

  int row(int i, int what) {
    return out(i, 0, rows.size() - 1) || out(what, 0, 2) ? -99 : rows.get(i)[what];
  }

  int alterRow(int i, int what, int v) {
    int was = row(i, what);
    if (!out(i, 0, rows.size() - 1) && !out(what, 0, 2)) rows.get(i)[what] = v;
    return was;
  }

  int judge(int learner) {
    if (noMind(learner)) return -1;
    List<int[]> must = proven(learner);
    for (int i = 0; i < rows.size(); i++) {
      if (i >= must.size()) return i + 1;
      for (int k = 0; k < 3; k++) if (rows.get(i)[k] != must.get(i)[k]) return i + 1;
    }
    return rows.size() < must.size() ? 222 : 0;
  }

  int firms(int sheet, int i, int learner, int pair, int n) {
    if (out(sheet, 0, 3) || noMind(learner) || out(pair, 0, 35) || out(n, 0, 36) || pair + n > 36) return -1;
    if (sheets[sheet] == null) return -11;
    if (!(sheets[sheet] instanceof byte[] from)) return -13;
    if (i < 0 || (long) i + n > from.length) return -12;
    for (int k = 0; k < n; k++) {
      w.minds.get(learner).firm[pair + k] = from[i + k] < 0 ? 0 : from[i + k] > 100 ? 100 : from[i + k];
    }
    return n;
  }

  // ---- the host

  int sheet(int sheet, int sort, int n) {
    if (out(sheet, 0, 3) || out(sort, -1, 3) || sort != -1 && n > 40) return -1;
    if (sort != -1 && n < 0) return -14;
    sheets[sheet] = switch (sort) {
      case 0 -> new byte[n];
      case 1 -> new short[n];
      case 2 -> new int[n];
      case 3 -> new long[n];
      default -> null;
    };
    return 1;
  }

  int put(int sheet, int i, int v) {
    if (out(sheet, 0, 3)) return -1;
    if (sheets[sheet] == null) return -11;
    if (out(i, 0, java.lang.reflect.Array.getLength(sheets[sheet]) - 1)) return -12;
    if (sheets[sheet] instanceof byte[] row) row[i] = (byte) v;
    if (sheets[sheet] instanceof short[] row) row[i] = (short) v;
    if (sheets[sheet] instanceof int[] row) row[i] = v;
    if (sheets[sheet] instanceof long[] row) row[i] = v;
    return 1;
  }

  private static final Class<?>[] SORTS = {byte[].class, short[].class, int[].class, long[].class};

  int number(int sheet, int sort, int i) {
    if (out(sheet, 0, 3) || out(sort, 0, 3)) return -1;
    if (sheets[sheet] == null) return -11;
    if (sheets[sheet].getClass() != SORTS[sort]) return -13;
    if (out(i, 0, java.lang.reflect.Array.getLength(sheets[sheet]) - 1)) return -12;
    return (int) java.lang.reflect.Array.getLong(sheets[sheet], i);
  }

  int shelf(int shelf, int what, int n) {
    if (out(shelf, 0, 3) || out(what, 0, 2)) return -1;
    if (what == 0 && noMind(n) || what == 1 && out(n, 0, 3)) return -1;
    shelves[shelf] = what == 0 ? (Object) n : what == 1 ? sheets[n] : null;
    return 1;
  }

  private Object held(int shelf) {
    Object thing = shelves[shelf];
    if (thing instanceof Integer n) return noMind(n) ? null : w.minds.get(n).thing();
    return thing;
  }

  int taken(int shelf, int as) {
    if (out(shelf, 0, 3) || out(as, 0, 5) && out(as, 10, 13)) return -1;
    Object thing = held(shelf);
    if (thing == null) return -11;
    if (as < 10) return thing instanceof Thing t && isOf(t, as) ? t.n : -13;
    return thing.getClass() == SORTS[as - 10] ? java.lang.reflect.Array.getLength(thing) : -13;
  }

  int act(int shelf, int act, int x) {
    trace = new ArrayList<>();
    if (out(shelf, 0, 3) || out(act, 0, 3)) return 0;
    if (!(held(shelf) instanceof Thing thing)) return 0;
    thing.trace = trace;
    try {
      return switch (act) {
        case 0 -> thing.says(x);
        case 1 -> thing.learns(x);
        case 2 -> thing.shares(x);
        default -> thing.tells(x);
      };
    } catch (ArithmeticException partedBy0) {
      return -15;
    }
  }

  int trace(int i) { return out(i, 0, Math.min(30, trace.size()) - 1) ? NONE : trace.get(i); }

  int many(int what) {
    return switch (what) {
      case 0 -> w.minds.size();
      case 1 -> w.lesson.size();
      case 2 -> rows.size();
      case 3 -> tape.length();
      case 4 -> Math.min(30, trace.size());
      default -> -1;
    };
  }

  int keep() {
    kept = w.copy();
    return 1;
  }

  int again() {
    if (kept == null) return NONE;
    w = kept.copy();
    return w.minds.size();
  }
}
