import java.lang.reflect.Method;
import java.lang.reflect.Modifier;
import java.math.BigInteger;
import java.util.ArrayList;
import java.util.HashMap;
import java.util.List;
import java.util.Map;
import java.util.Random;
import java.util.TreeSet;
import java.util.regex.Matcher;
import java.util.regex.Pattern;

/** Random runs of calls against a slow model that counts every case and reckons with BigIntegers. */
public final class ModelTest {
  private static final int RUNS = 300;
  private static final int CALLS = 512;

  /** Each call's name and, for each argument, its least and greatest usual value. */
  private static final String[] CALLS_AND_RANGES = {
    "letter 0 255", "evening", "sees 0 1 1 16", "unsees 0 1", "sheet 0 1 0 6", "of 0 1 0 4", "looker 0 5 0 2",
    "believes 1 16 0 9", "belief 1 16", "turn 0 5 0 5 0 9", "paid 0 1 1 16", "chance 1 16 1 6 0 17 0 1",
    "most 1 16 1 6 0 17 0 1", "guess 0 5 0 1 0 1", "nearest 0 1 1 16", "ordered 0 1 0 5", "off 0 5 1 10 1 4 0 1",
    "mean 0 5 1 10 1 4 0 1", "fair 0 5 1 4", "best 1 10 1 4", "sure 0 1 1 20 1 20", "look 1 16 1 16",
    "before 1 16 0 1", "after 0 1 1 16 0 1", "which 0 1", "about 0 1 0 1", "next 0 1 0 1", "again 1 16 1 6 1 6 0 1",
    "likeliest 1 6 1 6", "more 0 1 0 1", "gone 1 12 0 12 2 20 0 1", "gap 0 1 0 1", "missing -1 1",
    "two 0 5 0 5 0 1 1 16", "whatIs 0 5 0 1 0 1", "row 0 99", "judge 1 16", "clear", "lots 1 20 0 9999999 0 1",
    "image", "on", "count 0 17"
  };

  /** Evenings told ahead of calls with all the ends: nothing, all full, all beliefs 0, some of all. */
  private static final String[] STATES = {
    "",
    "s001;s002;s003;s004;s005;s006; s116;s115;s114;s113;s112;s111; lp0;lm0;lt0;le0;lf9;lh0;p59;b169;b010;",
    "s016;s005;lf3;lp0; b010;b020;b030;b040;b050;b060;b070;b080;b090;b100;b110;b120;b130;b140;b150;b160;",
    "s008;s003;s012;s116;s103;lf2;lp0;le0;lt0;p19;b020;b163;b088;"
  };

  private static final Map<String, Method> PROGRAM = methodsOf(SixtyOneCabs.class);
  private static final Map<String, Method> MODEL = methodsOf(Model.class);

  private static Map<String, Method> methodsOf(Class<?> type) {
    Map<String, Method> methods = new HashMap<>();
    for (Method method : type.getDeclaredMethods()) {
      if (Modifier.isPublic(method.getModifiers())) {
        methods.put(method.getName(), method);
      }
    }
    return methods;
  }

  public static void main(String[] args) throws Exception {
    for (int run = 0; run < RUNS; run++) {
      new Run(run).play();
    }
    for (String state : STATES) {
      for (String call : CALLS_AND_RANGES) {
        allEnds(state, call.split(" "));
      }
    }
    Check.end("ModelTest");
  }

  /** A call with its least and greatest usual values, the next beyond them and the ends of an int, in every mixture. */
  private static void allEnds(String state, String[] call) throws Exception {
    int numbers = call.length / 2;
    int mixtures = 1;
    for (int i = 0; i < numbers; i++) {
      mixtures *= 7;
    }
    Run run = null;
    for (int mixture = 0; mixture < mixtures; mixture++) {
      if (run == null || run.calls > CALLS - 10) {
        run = new Run(RUNS + mixture);
        run.tell(state);
      }
      Object[] values = new Object[numbers];
      for (int i = 0, rest = mixture; i < numbers; i++, rest /= 7) {
        int least = Integer.parseInt(call[2 * i + 1]);
        int greatest = Integer.parseInt(call[2 * i + 2]);
        int middle = (least + greatest) / 2;
        int[] ends = {least, greatest, least - 1, greatest + 1, middle, Integer.MIN_VALUE, Integer.MAX_VALUE};
        values[i] = ends[rest % 7];
      }
      run.call(call[0], values);
      run.tellSize();
    }
  }

  /** One run of calls on a new object and a new model. */
  private static final class Run {
    private final int number;
    private final Random random;
    private final SixtyOneCabs program = new SixtyOneCabs();
    private final Model model = new Model();
    private int calls = 0;

    Run(int number) {
      this.number = number;
      this.random = new Random(610000 + number);
    }

    void play() throws Exception {
      while (calls < CALLS) {
        switch (random.nextInt(12)) {
          case 0:
            tellEvening();
            break;
          case 1:
            tellRow();
            break;
          case 2:
            call("sees", random.nextInt(2), 1 + random.nextInt(16));
            break;
          default:
            anyCall();
        }
      }
    }

    /** Evenings with a blank between them, a row, an image and a letter. */
    void tell(String evenings) throws Exception {
      for (String evening : evenings.split(" ")) {
        for (int i = 0; i < evening.length(); i++) {
          call("letter", (int) evening.charAt(i));
        }
        call("evening");
      }
      call("row", 5);
      call("image");
      call("letter", (int) 'u');
    }

    /** What changes with a refusal, and what must not. */
    void tellSize() throws Exception {
      for (int what : new int[] {1, 11, 12, 13, 14, 16}) {
        call("count", what);
      }
    }

    private void anyCall() throws Exception {
      String[] words = CALLS_AND_RANGES[random.nextInt(CALLS_AND_RANGES.length)].split(" ");
      Object[] values = new Object[words.length / 2];
      for (int i = 0; i < values.length; i++) {
        values[i] = value(Integer.parseInt(words[2 * i + 1]), Integer.parseInt(words[2 * i + 2]));
      }
      call(words[0], values);
    }

    private int value(int least, int greatest) {
      switch (random.nextInt(40)) {
        case 0:
          return least - 1;
        case 1:
          return greatest + 1;
        case 2:
          return random.nextBoolean() ? Integer.MIN_VALUE : Integer.MAX_VALUE;
        default:
          return least + random.nextInt(greatest - least + 1);
      }
    }

    private void tellEvening() throws Exception {
      int statements = random.nextInt(8);
      StringBuilder text = new StringBuilder();
      for (int i = 0; i < statements; i++) {
        text.append(statement());
      }
      if (random.nextInt(5) == 0 && text.length() > 0) {
        text.setCharAt(random.nextInt(text.length()), (char) (random.nextInt(4) == 0 ? random.nextInt(256) : "sblwup;0129"
            .charAt(random.nextInt(11))));
      }
      if (random.nextInt(8) == 0 && text.length() > 0) {
        text.setLength(random.nextInt(text.length()));
      }
      for (int i = 0; i < text.length(); i++) {
        call("letter", (int) text.charAt(i));
      }
      call("evening");
    }

    private String statement() {
      int colour = random.nextInt(20) == 0 ? 2 : random.nextInt(2);
      int n = random.nextInt(20) == 0 ? random.nextInt(100) : 1 + random.nextInt(16);
      String twoDigits = n < 10 ? "0" + n : "" + n;
      switch (random.nextInt(9)) {
        case 0:
        case 1:
          return "b" + twoDigits + (random.nextInt(3) == 0 ? 0 : random.nextInt(10)) + ";";
        case 2:
        case 3:
          return "l" + "pmtefh".charAt(random.nextInt(6)) + random.nextInt(10) + ";";
        case 4:
          return (random.nextInt(3) == 0 ? "w" : "u") + colour + ";";
        case 5:
          return "p" + random.nextInt(4) + random.nextInt(10) + ";";
        default:
          return "s" + colour + twoDigits + ";";
      }
    }

    /** A row as one of the kinds would tell it, or numbers that could be seen, or any. */
    private void tellRow() throws Exception {
      call("clear");
      int colour = random.nextInt(2);
      List<Integer> sheet = model.sheets.get(colour);
      int many = random.nextInt(7);
      int kind = random.nextInt(6);
      int figure = random.nextInt(10);
      boolean asGuessed = random.nextBoolean();
      for (int i = 0; i < many; i++) {
        if (asGuessed && i < sheet.size()) {
          call("row", Model.guessBy(kind, figure, sheet.subList(0, i + 1)).cut());
        } else {
          call("row", random.nextInt(18));
        }
      }
      for (int looker = 0; looker < model.lookers.size(); looker++) {
        call("whatIs", looker, colour, 0);
        call("whatIs", looker, colour, 1);
      }
      call("judge", 1 + random.nextInt(16));
    }

    private void call(String name, Object... values) throws Exception {
      // What an object answers behind its 512th call is free.
      if (calls >= CALLS) {
        return;
      }
      calls++;
      long got = ((Number) PROGRAM.get(name).invoke(program, values)).longValue();
      long want = ((Number) MODEL.get(name).invoke(model, values)).longValue();
      Check.due("run " + number + " call " + calls + ": " + name + List.of(values), got, want);
    }
  }

  /** A fraction in least terms. */
  private static final class Frac implements Comparable<Frac> {
    static final Frac ZERO = of(0, 1);
    static final Frac ONE = of(1, 1);
    final BigInteger above;
    final BigInteger below;

    private Frac(BigInteger above, BigInteger below) {
      BigInteger common = above.gcd(below);
      BigInteger by = below.signum() < 0 ? common.negate() : common;
      this.above = above.divide(by);
      this.below = below.divide(by);
    }

    static Frac of(long above, long below) {
      return new Frac(BigInteger.valueOf(above), BigInteger.valueOf(below));
    }

    static Frac of(long whole) {
      return of(whole, 1);
    }

    Frac plus(Frac o) {
      return new Frac(above.multiply(o.below).add(o.above.multiply(below)), below.multiply(o.below));
    }

    Frac minus(Frac o) {
      return plus(new Frac(o.above.negate(), o.below));
    }

    Frac times(Frac o) {
      return new Frac(above.multiply(o.above), below.multiply(o.below));
    }

    Frac by(Frac o) {
      return new Frac(above.multiply(o.below), below.multiply(o.above));
    }

    Frac abs() {
      return new Frac(above.abs(), below);
    }

    boolean isZero() {
      return above.signum() == 0;
    }

    /** 0 if o is 0. */
    Frac byOrZero(Frac o) {
      return o.isZero() ? ZERO : by(o);
    }

    int cut() {
      return Math.max(0, Math.min(99, above.divide(below).intValueExact()));
    }

    long part(int part) {
      return (part == 0 ? above : below).longValueExact();
    }

    @Override
    public int compareTo(Frac o) {
      return above.multiply(o.below).compareTo(o.above.multiply(below));
    }
  }

  /** The document, done the slow way. Its public methods are called by name. */
  private static final class Model {
    private static final Pattern EVENING =
        Pattern.compile("(s[0-9]{3};|b[0-9]{3};|l[pmtefh][0-9];|w[0-9];|u[0-9];|p[0-9]{2};)+", Pattern.DOTALL);
    private static final Frac[][] WAYS = pascal();

    List<List<Integer>> sheets = List.of(new ArrayList<>(), new ArrayList<>());
    List<int[]> lookers = new ArrayList<>();
    int[] beliefs = new int[17];
    private String letters = "";
    private final List<Integer> row = new ArrayList<>();
    private final int[] refusals = new int[7];
    private Model image = null;

    Model() {
      java.util.Arrays.fill(beliefs, 1, 17, 1);
    }

    private static Frac[][] pascal() {
      Frac[][] ways = new Frac[17][17];
      for (int n = 0; n <= 16; n++) {
        for (int k = 0; k <= 16; k++) {
          Frac left = n > 0 && k > 0 ? ways[n - 1][k - 1] : Frac.ZERO;
          ways[n][k] = k == 0 ? Frac.ONE : n == 0 ? Frac.ZERO : ways[n - 1][k].plus(left);
        }
      }
      return ways;
    }

    private Model copy() {
      Model m = new Model();
      m.take(this);
      return m;
    }

    private void take(Model other) {
      for (int c = 0; c < 2; c++) {
        List<Integer> numbers = new ArrayList<>(other.sheets.get(c));
        sheets.get(c).clear();
        sheets.get(c).addAll(numbers);
      }
      List<int[]> copies = new ArrayList<>();
      for (int[] looker : other.lookers) {
        copies.add(looker.clone());
      }
      lookers = copies;
      beliefs = other.beliefs.clone();
    }

    private int no(int code) {
      refusals[-code]++;
      return code;
    }

    private long noLong(int code) {
      return 4000000000000000000L - no(code);
    }

    private boolean colour(int c) {
      return c == 0 || c == 1;
    }

    private boolean looker(int l) {
      return l >= 0 && l < lookers.size();
    }

    private static boolean part(int p) {
      return p == 0 || p == 1;
    }

    static Frac guessBy(int kind, int figure, List<Integer> sheet) {
      if (sheet.isEmpty()) {
        return Frac.ZERO;
      }
      TreeSet<Integer> sorted = new TreeSet<>(sheet);
      int k = sheet.size();
      int g = sorted.last();
      int l = sorted.first();
      int t = sheet.stream().mapToInt(Integer::intValue).sum();
      Frac plain = Frac.of(g).plus(Frac.of(g, k)).minus(Frac.ONE);
      Frac twice = Frac.of(2).times(Frac.of(t, k)).minus(Frac.ONE);
      Frac ends = k == 1 ? plain : Frac.of(g).plus(Frac.of(g - l, k - 1)).minus(Frac.ONE);
      Frac half = twice.times(Frac.of(1, 2)).plus(plain.times(Frac.of(1, 2)));
      return List.of(plain, Frac.of(g), twice, ends, Frac.of(g + figure), half).get(kind);
    }

    private Frac guessOf(int looker, List<Integer> sheet) {
      return guessBy(lookers.get(looker)[0], lookers.get(looker)[1], sheet);
    }

    private static void waysToSee(int n, int k, List<Integer> sofar, List<List<Integer>> all) {
      if (sofar.size() == k) {
        all.add(new ArrayList<>(sofar));
        return;
      }
      for (int v = 1; v <= n; v++) {
        if (!sofar.contains(v)) {
          sofar.add(v);
          waysToSee(n, k, sofar, all);
          sofar.remove(sofar.size() - 1);
        }
      }
    }

    private static final Map<Integer, List<List<Integer>>> SEEN_WAYS = new HashMap<>();

    private static List<List<Integer>> waysToSee(int n, int k) {
      return SEEN_WAYS.computeIfAbsent(100 * n + k, key -> {
        List<List<Integer>> all = new ArrayList<>();
        waysToSee(n, k, new ArrayList<>(), all);
        return all;
      });
    }

    private final Map<String, Frac> offs = new HashMap<>();

    private Frac offOf(int kind, int figure, int n, int k) {
      return offs.computeIfAbsent(kind + " " + (kind == 4 ? figure : 0) + " " + n + " " + k, key -> {
        Frac sum = Frac.ZERO;
        for (List<Integer> way : waysToSee(n, k)) {
          Frac far = guessBy(kind, figure, way).minus(Frac.of(n));
          sum = sum.plus(far.times(far));
        }
        return sum.by(Frac.of(waysToSee(n, k).size()));
      });
    }

    private final Map<String, Frac> means = new HashMap<>();

    private Frac meanOf(int kind, int figure, int n, int k) {
      return means.computeIfAbsent(kind + " " + (kind == 4 ? figure : 0) + " " + n + " " + k, key -> {
        Frac sum = Frac.ZERO;
        for (List<Integer> way : waysToSee(n, k)) {
          sum = sum.plus(guessBy(kind, figure, way));
        }
        return sum.by(Frac.of(waysToSee(n, k).size()));
      });
    }

    public int letter(int c) {
      if (c < 0) return no(-4);
      if (c > 255 || letters.length() == 96) return no(-6);
      letters += (char) c;
      return letters.length();
    }

    public int evening() {
      String text = letters;
      letters = "";
      for (int i = 1; i <= text.length(); i++) {
        Matcher matcher = EVENING.matcher(text.substring(0, i));
        if (!matcher.matches() && !matcher.hitEnd()) return -1000 - (i - 1);
      }
      if (!EVENING.matcher(text).matches()) return -1000 - text.length();
      Model then = copy();
      int place = 0;
      int many = 0;
      for (String statement : text.split(";")) {
        if (!then.comes(statement)) return -2000 - place;
        place += statement.length() + 1;
        many++;
      }
      take(then);
      return many;
    }

    private boolean comes(String s) {
      int d = s.charAt(1) - '0';
      int e = s.charAt(s.length() - 1) - '0';
      switch (s.charAt(0)) {
        case 's':
          int v = Integer.parseInt(s.substring(2));
          if (!colour(d) || v < 1 || v > 16 || sheets.get(d).contains(v) || sheets.get(d).size() == 6) return false;
          return sheets.get(d).add(v);
        case 'b':
          int n = Integer.parseInt(s.substring(1, 3));
          if (n < 1 || n > 16) return false;
          beliefs[n] = e;
          return true;
        case 'l':
          if (lookers.size() == 6) return false;
          return lookers.add(new int[] {"pmtefh".indexOf(s.charAt(1)), e, 0});
        case 'w':
          if (!colour(d)) return false;
          sheets.get(d).clear();
          return true;
        case 'u':
          if (!colour(d) || sheets.get(d).isEmpty()) return false;
          sheets.get(d).remove(sheets.get(d).size() - 1);
          return true;
        default:
          if (!looker(d)) return false;
          lookers.get(d)[2] = Math.min(99, lookers.get(d)[2] + e);
          return true;
      }
    }

    public int sees(int c, int v) {
      if (!colour(c)) return no(-1);
      if (v < 1) return no(-4);
      if (v > 16 || sheets.get(c).size() == 6) return no(-6);
      if (sheets.get(c).contains(v)) return no(-3);
      sheets.get(c).add(v);
      return sheets.get(c).size();
    }

    public int unsees(int c) {
      if (!colour(c)) return no(-1);
      if (sheets.get(c).isEmpty()) return no(-3);
      return sheets.get(c).remove(sheets.get(c).size() - 1);
    }

    public int sheet(int c, int i) {
      if (!colour(c)) return no(-1);
      if (i < 0) return no(-4);
      return i < sheets.get(c).size() ? sheets.get(c).get(i) : -9;
    }

    public int of(int c, int what) {
      if (!colour(c)) return no(-1);
      if (what < 0 || what > 4) return no(-2);
      List<Integer> s = sheets.get(c);
      if (what == 0) return s.size();
      if (what == 1) return s.stream().mapToInt(Integer::intValue).max().orElse(0);
      if (what == 2) return s.stream().mapToInt(Integer::intValue).min().orElse(0);
      if (what == 3) return s.stream().mapToInt(Integer::intValue).sum();
      int rising = 0;
      for (int i = 0; i < s.size(); i++) {
        int v = s.get(i);
        if (s.subList(0, i).stream().allMatch(w -> w < v)) rising++;
      }
      return rising;
    }

    public int looker(int l, int what) {
      if (!looker(l)) return no(-1);
      if (what < 0 || what > 2) return no(-2);
      return lookers.get(l)[what];
    }

    public int believes(int n, int v) {
      if (n < 1 || v < 0) return no(-4);
      if (n > 16 || v > 9) return no(-6);
      int was = beliefs[n];
      beliefs[n] = v;
      return was;
    }

    public int belief(int n) {
      if (n < 1) return no(-4);
      if (n > 16) return no(-6);
      return beliefs[n];
    }

    public int turn(int l, int kind, int figure) {
      if (!looker(l)) return no(-1);
      if (kind < 0 || kind > 5) return no(-2);
      if (figure < 0) return no(-4);
      if (figure > 9) return no(-6);
      int was = lookers.get(l)[0] * 10 + lookers.get(l)[1];
      lookers.get(l)[0] = kind;
      lookers.get(l)[1] = figure;
      return was;
    }

    private int sheetAndCabs(int c, int n) {
      if (!colour(c)) return -1;
      if (n < 1) return -4;
      return n > 16 ? -6 : 0;
    }

    private int nearestOf(int c, int n) {
      if (sheets.get(c).isEmpty()) return -9;
      int best = -9;
      Frac least = null;
      for (int l = 0; l < lookers.size(); l++) {
        Frac far = guessOf(l, sheets.get(c)).minus(Frac.of(n)).abs();
        if (least == null || far.compareTo(least) < 0) {
          least = far;
          best = l;
        }
      }
      return best;
    }

    public int paid(int c, int n) {
      int no = sheetAndCabs(c, n);
      if (no != 0) return no(no);
      int who = nearestOf(c, n);
      if (who != -9) lookers.get(who)[2] = Math.min(99, lookers.get(who)[2] + 1);
      return who;
    }

    private static int seen(int n, int k, int mostN, int mostK, int part) {
      if (n < 1 || k < 1) return -4;
      if (n > mostN || k > mostK || k > n) return -6;
      return part(part) ? 0 : -2;
    }

    /** How many of the ways to see k of n have a greatest from..to, counted by bits. */
    private static Frac share(int n, int k, int from, int to) {
      int all = 0;
      int good = 0;
      for (int bits = 0; bits < 1 << n; bits++) {
        if (Integer.bitCount(bits) == k) {
          all++;
          int greatest = 32 - Integer.numberOfLeadingZeros(bits);
          if (greatest >= from && greatest <= to) good++;
        }
      }
      return Frac.of(good, all);
    }

    public long chance(int n, int k, int v, int part) {
      int no = seen(n, k, 16, 6, part);
      return no != 0 ? noLong(no) : share(n, k, v, v).part(part);
    }

    public long most(int n, int k, int v, int part) {
      int no = seen(n, k, 16, 6, part);
      return no != 0 ? noLong(no) : share(n, k, 0, v).part(part);
    }

    public long guess(int l, int c, int part) {
      if (!looker(l) || !colour(c)) return noLong(-1);
      if (!part(part)) return noLong(-2);
      return guessOf(l, sheets.get(c)).part(part);
    }

    public int nearest(int c, int n) {
      int no = sheetAndCabs(c, n);
      return no != 0 ? no(no) : nearestOf(c, n);
    }

    public int ordered(int c, int i) {
      if (!colour(c)) return no(-1);
      if (i < 0) return no(-4);
      if (sheets.get(c).isEmpty() || i >= lookers.size()) return -9;
      List<Integer> order = new ArrayList<>();
      for (int l = 0; l < lookers.size(); l++) order.add(l);
      order.sort((a, b) -> guessOf(a, sheets.get(c)).compareTo(guessOf(b, sheets.get(c))));
      return order.get(i);
    }

    public long off(int l, int n, int k, int part) {
      int no = looker(l) ? seen(n, k, 10, 4, part) : -1;
      return no != 0 ? noLong(no) : offOf(lookers.get(l)[0], lookers.get(l)[1], n, k).part(part);
    }

    public long mean(int l, int n, int k, int part) {
      int no = looker(l) ? seen(n, k, 10, 4, part) : -1;
      return no != 0 ? noLong(no) : meanOf(lookers.get(l)[0], lookers.get(l)[1], n, k).part(part);
    }

    public int fair(int l, int k) {
      if (!looker(l)) return no(-1);
      if (k < 1) return no(-4);
      if (k > 4) return no(-6);
      for (int n = k; n <= 10; n++) {
        if (meanOf(lookers.get(l)[0], lookers.get(l)[1], n, k).compareTo(Frac.of(n)) != 0) return 0;
      }
      return 1;
    }

    public int best(int n, int k) {
      int no = seen(n, k, 10, 4, 0);
      if (no != 0) return no(no);
      int best = -9;
      Frac least = null;
      for (int l = 0; l < lookers.size(); l++) {
        Frac off = offOf(lookers.get(l)[0], lookers.get(l)[1], n, k);
        if (least == null || off.compareTo(least) < 0) {
          least = off;
          best = l;
        }
      }
      return best;
    }

    public int sure(int c, int a, int b) {
      if (!colour(c)) return no(-1);
      if (a < 1 || b < 1) return no(-4);
      if (b > 20 || a > b) return no(-6);
      List<Integer> s = sheets.get(c);
      if (s.isEmpty()) return 16;
      int most = 0;
      for (int n = greatest(s); n <= 16; n++) {
        if (share(n, s.size(), 0, greatest(s)).compareTo(Frac.of(a, b)) >= 0) most = n;
      }
      return most;
    }

    private static int greatest(List<Integer> s) {
      return s.stream().mapToInt(Integer::intValue).max().orElse(0);
    }

    public int look(int n, int v) {
      if (n < 1 || v < 1) return no(-4);
      if (n > 16 || v > 16) return no(-6);
      for (int k = 1; k <= Math.min(6, n); k++) {
        if (share(n, k, v, 16).compareTo(Frac.of(1, 2)) > 0) return k;
      }
      return -9;
    }

    public long before(int n, int part) {
      if (n < 1) return noLong(-4);
      if (n > 16) return noLong(-6);
      if (!part(part)) return noLong(-2);
      Frac all = Frac.of(java.util.Arrays.stream(beliefs).sum());
      return Frac.of(beliefs[n]).byOrZero(all).part(part);
    }

    /** After the sheet of a colour, of each n; all 0 if nothing is left. */
    private Frac[] after(int c) {
      Frac[] p = new Frac[17];
      Frac all = Frac.ZERO;
      List<Integer> s = sheets.get(c);
      for (int n = 0; n <= 16; n++) {
        p[n] = n < 1 || n < greatest(s) ? Frac.ZERO : Frac.of(beliefs[n]).by(WAYS[n][s.size()]);
        all = all.plus(p[n]);
      }
      for (int n = 0; n <= 16; n++) {
        p[n] = p[n].byOrZero(all);
      }
      return p;
    }

    public long after(int c, int n, int part) {
      int no = sheetAndCabs(c, n);
      if (no != 0) return noLong(no);
      if (!part(part)) return noLong(-2);
      return after(c)[n].part(part);
    }

    public int which(int c) {
      if (!colour(c)) return no(-1);
      Frac[] p = after(c);
      int best = 0;
      for (int n = 1; n <= 16; n++) {
        if (p[n].compareTo(p[best]) > 0) best = n;
      }
      return best == 0 ? -9 : best;
    }

    public long about(int c, int part) {
      if (!colour(c)) return noLong(-1);
      if (!part(part)) return noLong(-2);
      Frac sum = Frac.ZERO;
      for (int n = 1; n <= 16; n++) sum = sum.plus(after(c)[n].times(Frac.of(n)));
      return sum.part(part);
    }

    public long next(int c, int part) {
      if (!colour(c)) return noLong(-1);
      if (!part(part)) return noLong(-2);
      List<Integer> s = sheets.get(c);
      Frac[] p = after(c);
      Frac sum = Frac.ZERO;
      for (int n = 1; n <= 16; n++) {
        int greater = 0;
        int other = 0;
        for (int v = 1; v <= n; v++) {
          if (!s.contains(v)) {
            other++;
            if (v > greatest(s)) greater++;
          }
        }
        if (other > 0) sum = sum.plus(p[n].times(Frac.of(greater, other)));
      }
      return sum.part(part);
    }

    private static Frac unlike(int n, int k, int u) {
      Frac[] p = new Frac[8];
      java.util.Arrays.fill(p, Frac.ZERO);
      p[0] = Frac.ONE;
      for (int look = 0; look < k; look++) {
        for (int j = 7; j >= 0; j--) {
          Frac fresh = j > 0 && n >= j - 1 ? p[j - 1].times(Frac.of(n - j + 1, n)) : Frac.ZERO;
          p[j] = p[j].times(Frac.of(j, n)).plus(fresh);
        }
      }
      return p[u];
    }

    public long again(int n, int k, int u, int part) {
      if (n < 1 || k < 1 || u < 1) return noLong(-4);
      if (n > 16 || k > 6 || u > 6) return noLong(-6);
      if (!part(part)) return noLong(-2);
      return unlike(n, k, u).part(part);
    }

    public int likeliest(int k, int u) {
      if (k < 1 || u < 1) return no(-4);
      if (k > 6 || u > 6) return no(-6);
      if (u > k) return no(-3);
      if (u == k) return -9;
      int best = 1;
      for (int n = 2; n <= 16; n++) {
        if (unlike(n, k, u).compareTo(unlike(best, k, u)) > 0) best = n;
      }
      return best;
    }

    public long more(int what, int part) {
      if (what < 0 || what > 1 || !part(part)) return noLong(-2);
      Frac[] p = after(0);
      Frac[] q = after(1);
      Frac sum = Frac.ZERO;
      for (int n = 1; n <= 16; n++) {
        for (int m = 1; m <= 16; m++) {
          if (what == 0 ? n > m : n == m) sum = sum.plus(p[n].times(q[m]));
        }
      }
      return sum.part(part);
    }

    public long gone(int n, int j, int t, int part) {
      if (n < 1 || j < 0 || t < 2) return noLong(-4);
      if (n > 12 || j > n || t > 20) return noLong(-6);
      if (!part(part)) return noLong(-2);
      Frac[] left = new Frac[n + 1];
      java.util.Arrays.fill(left, Frac.ZERO);
      left[0] = Frac.ONE;
      for (int cab = 1; cab <= n; cab++) {
        for (int i = cab; i >= 0; i--) {
          Frac stays = i > 0 ? left[i - 1].times(Frac.of(t - 1, t)) : Frac.ZERO;
          left[i] = left[i].times(Frac.of(1, t)).plus(stays);
        }
      }
      Frac sum = Frac.ZERO;
      for (int i = j; i <= n; i++) sum = sum.plus(left[i]);
      return sum.part(part);
    }

    public int gap(int c, int what) {
      if (!colour(c)) return no(-1);
      if (what < 0 || what > 1) return no(-2);
      int ahead = 0;
      int lack = -9;
      int where = -9;
      for (int v : new TreeSet<>(sheets.get(c))) {
        if (v - ahead - 1 > lack) {
          lack = v - ahead - 1;
          where = v;
        }
        ahead = v;
      }
      return what == 0 ? lack : where;
    }

    public int missing(int c) {
      if (c != -1 && !colour(c)) return no(-1);
      int bits = 0;
      for (int v = 1; v <= 16; v++) {
        boolean so = c == -1 ? sheets.get(0).contains(v) && sheets.get(1).contains(v)
            : v < greatest(sheets.get(c)) && !sheets.get(c).contains(v);
        if (so) bits += 1 << v;
      }
      return bits;
    }

    public int two(int a, int b, int c, int n) {
      if (!looker(a) || !looker(b) || !colour(c) || a == b) return no(-1);
      if (n < 1) return no(-4);
      if (n > 16) return no(-6);
      if (sheets.get(c).isEmpty()) return -9;
      int[][] first = new int[2][2];
      int[][] second = new int[2][2];
      for (int x = 0; x < 2; x++) {
        for (int y = 0; y < 2; y++) {
          Frac one = guessOf(a, sheets.get(c)).plus(Frac.of(x - n)).abs();
          Frac two = guessOf(b, sheets.get(c)).plus(Frac.of(y - n)).abs();
          int order = Integer.signum(one.compareTo(two));
          first[x][y] = 1 - order - x;
          second[x][y] = 1 + order - y;
        }
      }
      for (int pair : new int[] {0, 1, 10, 11}) {
        int x = pair / 10;
        int y = pair % 10;
        if (first[1 - x][y] <= first[x][y] && second[x][1 - y] <= second[x][y]) return pair;
      }
      return -9;
    }

    public int whatIs(int l, int c, int what) {
      if (!looker(l) || !colour(c)) return no(-1);
      if (what < 0 || what > 1) return no(-2);
      if (row.size() > sheets.get(c).size()) return no(-3);
      int bits = 0;
      for (int i = 0; i < (what == 0 ? 6 : 10); i++) {
        int kind = what == 0 ? i : lookers.get(l)[0];
        int figure = what == 0 ? lookers.get(l)[1] : i;
        List<Integer> told = new ArrayList<>();
        for (int many = 1; many <= row.size(); many++) {
          told.add(guessBy(kind, figure, sheets.get(c).subList(0, many)).cut());
        }
        if (told.equals(row)) bits += 1 << i;
      }
      return bits;
    }

    public int row(int v) {
      if (v < 0) return no(-4);
      if (v > 99 || row.size() == 16) return no(-6);
      row.add(v);
      return row.size();
    }

    public int judge(int n) {
      if (n < 1) return no(-4);
      if (n > 16) return no(-6);
      int place = -9;
      for (int i = row.size() - 1; i >= 0; i--) {
        if (row.get(i) < 1 || row.get(i) > n || row.subList(0, i).contains(row.get(i))) place = i;
      }
      row.clear();
      return place;
    }

    public int clear() {
      int had = row.size();
      row.clear();
      return had;
    }

    public int lots(int n, int z, int what) {
      if (n < 1) return no(-4);
      if (n > 20) return no(-6);
      if (what < 0 || what > 1) return no(-2);
      BigInteger word = BigInteger.TWO.pow(32);
      BigInteger seed = BigInteger.valueOf(z).mod(word);
      int together = 0;
      int above = 0;
      for (int i = 0; i < n; i++) {
        List<Integer> seen = new ArrayList<>();
        while (seen.size() < 4) {
          seed = seed.multiply(BigInteger.valueOf(1664525)).add(BigInteger.valueOf(1013904223)).mod(word);
          int draw = seed.clearBit(31).divide(BigInteger.valueOf(256)).mod(BigInteger.valueOf(16)).intValue();
          if (!seen.contains(1 + draw)) seen.add(1 + draw);
        }
        together += greatest(seen);
        if (guessBy(0, 0, seen).compareTo(Frac.of(16)) > 0) above++;
      }
      return what == 0 ? together : above;
    }

    public int image() {
      image = copy();
      return sheets.get(0).size() + sheets.get(1).size();
    }

    public int on() {
      if (image == null) return no(-3);
      take(image);
      return sheets.get(0).size() + sheets.get(1).size();
    }

    public int count(int what) {
      switch (what) {
        case 0: return lookers.size();
        case 1: return sheets.get(0).size();
        case 2: return sheets.get(1).size();
        case 3: return java.util.Arrays.stream(beliefs).sum();
        case 4: return lookers.stream().mapToInt(l -> l[2]).sum();
        case 5: return 0;
        case 6: return row.size();
        case 7: return letters.length();
        default: return what >= 11 && what <= 16 ? refusals[what - 10] : -9;
      }
    }
  }
}
