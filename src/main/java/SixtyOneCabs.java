/** A rank of cabs in two colours, what was seen of them, and lookers who guess how many there are. */
public final class SixtyOneCabs {
  private static final int NOBODY = -1;
  private static final int OTHER = -2;
  private static final int STATE = -3;
  private static final int BELOW = -4;
  private static final int ROOM = -6;
  private static final int NONE = -9;
  private static final long LONG_REFUSAL = 4000000000000000000L;
  private static final int WITHOUT_SIGN = 0x7fffffff;

  private static final int COLOURS = 2;
  private static final int MOST_CABS = 16;
  private static final int MOST_SEEN = 6;
  private static final int MOST_LOOKERS = 6;
  private static final int MOST_BETS = 99;
  private static final int MOST_DIGIT = 9;
  private static final int MOST_LETTERS = 96;
  private static final int MOST_SIGN = 255;
  private static final int MOST_ROW = 16;
  private static final int MOST_CUT = 99;
  private static final int MOST_OFF_CABS = 10;
  private static final int MOST_OFF_SEEN = 4;
  private static final int MOST_ODDS = 20;
  private static final int MOST_GONE_CABS = 12;
  private static final int MOST_EVENINGS = 20;
  private static final int SEEN_BY_LOT = 4;

  private static final int KINDS = 6;
  private static final int PLAIN = 0;
  private static final int MOST = 1;
  private static final int TWICE = 2;
  private static final int ENDS = 3;
  private static final int FAR = 4;
  private static final int HALF = 5;
  private static final String KIND_LETTERS = "pmtefh";

  // Every number of ways to choose of at most 16 cabs divides it, and so does every number of cabs.
  private static final long COMMON = 720720L;

  // The draws repeat their last 12 bits after 4096, so any number that lacks comes far ahead of this.
  private static final int DRAWS_BOUND = 1000000;

  // The greatest common divisor of two longs takes fewer than 100 steps.
  private static final int DIVISOR_STEPS = 200;

  private final World now;
  private final World kept;
  private final World trial;
  private final Letters letters;
  private final Tally tally;
  private final int[] told;
  private final int[] refused;
  private boolean hasImage;
  private int toldSize;

  public SixtyOneCabs() {
    now = new World();
    kept = new World();
    trial = new World();
    letters = new Letters();
    tally = new Tally();
    told = new int[MOST_ROW];
    refused = new int[7];
    hasImage = false;
    toldSize = 0;
  }

  public int letter(int c) {
    if (c < 0) {
      return refuse(BELOW);
    }
    if (c > MOST_SIGN || letters.size >= MOST_LETTERS) {
      return refuse(ROOM);
    }
    letters.add(c);
    return letters.size;
  }

  public int evening() {
    int answer = eveningOf();
    letters.size = 0;
    return answer;
  }

  public int sees(int colour, int v) {
    if (noColour(colour)) {
      return refuse(NOBODY);
    }
    if (v < 1) {
      return refuse(BELOW);
    }
    if (v > MOST_CABS || now.sheets[colour].size >= MOST_SEEN) {
      return refuse(ROOM);
    }
    if (!now.addSeen(colour, v)) {
      return refuse(STATE);
    }
    return now.sheets[colour].size;
  }

  public int unsees(int colour) {
    if (noColour(colour)) {
      return refuse(NOBODY);
    }
    int last = now.sheets[colour].last();
    return now.dropSeen(colour) ? last : refuse(STATE);
  }

  public int sheet(int colour, int i) {
    if (noColour(colour)) {
      return refuse(NOBODY);
    }
    if (i < 0) {
      return refuse(BELOW);
    }
    Sheet s = now.sheets[colour];
    return i < s.size ? s.numbers[i] : NONE;
  }

  public int of(int colour, int what) {
    if (noColour(colour)) {
      return refuse(NOBODY);
    }
    if (what < 0 || what > 4) {
      return refuse(OTHER);
    }
    tallySheet(colour);
    switch (what) {
      case 0:
        return tally.many;
      case 1:
        return tally.greatest;
      case 2:
        return tally.least;
      case 3:
        return tally.total;
      default:
        return now.sheets[colour].rising();
    }
  }

  public int looker(int looker, int what) {
    if (noLooker(looker)) {
      return refuse(NOBODY);
    }
    if (what < 0 || what > 2) {
      return refuse(OTHER);
    }
    if (what == 0) {
      return now.kinds[looker];
    }
    return what == 1 ? now.figures[looker] : now.bets[looker];
  }

  public int believes(int n, int v) {
    if (n < 1 || v < 0) {
      return refuse(BELOW);
    }
    if (n > MOST_CABS || v > MOST_DIGIT) {
      return refuse(ROOM);
    }
    int was = now.beliefs[n];
    now.beliefs[n] = v;
    return was;
  }

  public int belief(int n) {
    int no = cabsRefusal(n);
    return no != 0 ? refuse(no) : now.beliefs[n];
  }

  public int turn(int looker, int kind, int figure) {
    if (noLooker(looker)) {
      return refuse(NOBODY);
    }
    if (kind < 0 || kind >= KINDS) {
      return refuse(OTHER);
    }
    if (figure < 0) {
      return refuse(BELOW);
    }
    if (figure > MOST_DIGIT) {
      return refuse(ROOM);
    }
    int was = 10 * now.kinds[looker] + now.figures[looker];
    now.kinds[looker] = kind;
    now.figures[looker] = figure;
    return was;
  }

  public int paid(int colour, int n) {
    int no = sheetRefusal(colour, n);
    if (no != 0) {
      return refuse(no);
    }
    int who = nearestLooker(colour, n);
    if (who >= 0) {
      now.addBets(who, 1);
    }
    return who;
  }

  public long chance(int n, int k, int v, int part) {
    int no = seenRefusal(n, k, part);
    if (no != 0) {
      return refuseLong(no);
    }
    long ways = v < k || v > n ? 0 : Exact.choose(v - 1, k - 1);
    return Exact.part(ways, Exact.choose(n, k), part);
  }

  public long most(int n, int k, int v, int part) {
    int no = seenRefusal(n, k, part);
    if (no != 0) {
      return refuseLong(no);
    }
    return Exact.part(Exact.choose(Math.min(v, n), k), Exact.choose(n, k), part);
  }

  public long guess(int looker, int colour, int part) {
    if (noLooker(looker) || noColour(colour)) {
      return refuseLong(NOBODY);
    }
    if (noPart(part)) {
      return refuseLong(OTHER);
    }
    tallySheet(colour);
    return Exact.part(guessAbove(looker), guessBelow(looker), part);
  }

  public int nearest(int colour, int n) {
    int no = sheetRefusal(colour, n);
    return no != 0 ? refuse(no) : nearestLooker(colour, n);
  }

  public int ordered(int colour, int i) {
    if (noColour(colour)) {
      return refuse(NOBODY);
    }
    if (i < 0) {
      return refuse(BELOW);
    }
    if (now.sheets[colour].size == 0) {
      return NONE;
    }
    tallySheet(colour);
    for (int looker = 0; looker < now.lookers; looker++) {
      if (lookersAheadOf(looker) == i) {
        return looker;
      }
    }
    return NONE;
  }

  public long off(int looker, int n, int k, int part) {
    int no = offRefusal(looker, n, k, part);
    if (no != 0) {
      return refuseLong(no);
    }
    long below = Guess.below(now.kinds[looker], k);
    return Exact.part(squaresOff(looker, n, k), below * below * Exact.choose(n, k), part);
  }

  public long mean(int looker, int n, int k, int part) {
    int no = offRefusal(looker, n, k, part);
    if (no != 0) {
      return refuseLong(no);
    }
    long below = Guess.below(now.kinds[looker], k);
    return Exact.part(guessesTogether(looker, n, k), below * Exact.choose(n, k), part);
  }

  public int fair(int looker, int k) {
    if (noLooker(looker)) {
      return refuse(NOBODY);
    }
    if (k < 1) {
      return refuse(BELOW);
    }
    if (k > MOST_OFF_SEEN) {
      return refuse(ROOM);
    }
    long below = Guess.below(now.kinds[looker], k);
    for (int n = k; n <= MOST_OFF_CABS; n++) {
      if (guessesTogether(looker, n, k) != n * below * Exact.choose(n, k)) {
        return 0;
      }
    }
    return 1;
  }

  public int best(int n, int k) {
    int no = waysRefusal(n, k, MOST_OFF_CABS, MOST_OFF_SEEN);
    if (no != 0) {
      return refuse(no);
    }
    int least = NONE;
    long leastSquares = 0;
    long leastBelow = 1;
    for (int looker = 0; looker < now.lookers; looker++) {
      long below = Guess.below(now.kinds[looker], k);
      long squares = squaresOff(looker, n, k);
      if (least < 0 || squares * leastBelow * leastBelow < leastSquares * below * below) {
        least = looker;
        leastSquares = squares;
        leastBelow = below;
      }
    }
    return least;
  }

  public int sure(int colour, int a, int b) {
    if (noColour(colour)) {
      return refuse(NOBODY);
    }
    if (a < 1 || b < 1) {
      return refuse(BELOW);
    }
    if (b > MOST_ODDS || a > b) {
      return refuse(ROOM);
    }
    tallySheet(colour);
    for (int n = MOST_CABS; n > tally.greatest; n--) {
      if (tally.many == 0 || isAsLikely(n, a, b)) {
        return n;
      }
    }
    return tally.greatest;
  }

  public int look(int n, int v) {
    if (n < 1 || v < 1) {
      return refuse(BELOW);
    }
    if (n > MOST_CABS || v > MOST_CABS) {
      return refuse(ROOM);
    }
    for (int k = 1; k <= MOST_SEEN && k <= n; k++) {
      if (2 * Exact.choose(Math.min(v - 1, n), k) < Exact.choose(n, k)) {
        return k;
      }
    }
    return NONE;
  }

  public long before(int n, int part) {
    int no = partRefusal(cabsRefusal(n), part);
    return no != 0 ? refuseLong(no) : Exact.part(now.beliefs[n], now.allBelief(), part);
  }

  public long after(int colour, int n, int part) {
    int no = partRefusal(sheetRefusal(colour, n), part);
    return no != 0 ? refuseLong(no) : Exact.part(weight(colour, n), allWeights(colour), part);
  }

  public int which(int colour) {
    if (noColour(colour)) {
      return refuse(NOBODY);
    }
    int likely = NONE;
    long greatest = 0;
    for (int n = 1; n <= MOST_CABS; n++) {
      long w = weight(colour, n);
      if (w > greatest) {
        greatest = w;
        likely = n;
      }
    }
    return likely;
  }

  public long about(int colour, int part) {
    int no = partRefusal(noColour(colour) ? NOBODY : 0, part);
    if (no != 0) {
      return refuseLong(no);
    }
    long sum = 0;
    for (int n = 1; n <= MOST_CABS; n++) {
      sum += n * weight(colour, n);
    }
    return Exact.part(sum, allWeights(colour), part);
  }

  public long next(int colour, int part) {
    int no = partRefusal(noColour(colour) ? NOBODY : 0, part);
    if (no != 0) {
      return refuseLong(no);
    }
    tallySheet(colour);
    long sum = 0;
    for (int n = tally.many + 1; n <= MOST_CABS; n++) {
      long unseen = n - tally.many;
      sum += weight(colour, n) * (n - tally.greatest) * (COMMON / unseen);
    }
    return Exact.part(sum, allWeights(colour) * COMMON, part);
  }

  public long again(int n, int k, int u, int part) {
    if (n < 1 || k < 1 || u < 1) {
      return refuseLong(BELOW);
    }
    if (n > MOST_CABS || k > MOST_SEEN || u > MOST_SEEN) {
      return refuseLong(ROOM);
    }
    if (noPart(part)) {
      return refuseLong(OTHER);
    }
    return Exact.part(Exact.unlikeWays(n, k, u), Exact.power(n, k), part);
  }

  public int likeliest(int k, int u) {
    if (k < 1 || u < 1) {
      return refuse(BELOW);
    }
    if (k > MOST_SEEN || u > MOST_SEEN) {
      return refuse(ROOM);
    }
    if (u > k) {
      return refuse(STATE);
    }
    if (u == k) {
      return NONE;
    }
    int likely = 1;
    for (int n = 2; n <= MOST_CABS; n++) {
      long one = Exact.unlikeWays(n, k, u) * Exact.power(likely, k);
      long other = Exact.unlikeWays(likely, k, u) * Exact.power(n, k);
      if (one > other) {
        likely = n;
      }
    }
    return likely;
  }

  public long more(int what, int part) {
    if (what < 0 || what > 1 || noPart(part)) {
      return refuseLong(OTHER);
    }
    long above = what == 0 ? weightsOfMore() : weightsOfAlike();
    return Exact.part(above, allWeights(0) * allWeights(1), part);
  }

  public long gone(int n, int j, int t, int part) {
    if (n < 1 || j < 0 || t < 2) {
      return refuseLong(BELOW);
    }
    if (n > MOST_GONE_CABS || j > n || t > MOST_ODDS) {
      return refuseLong(ROOM);
    }
    if (noPart(part)) {
      return refuseLong(OTHER);
    }
    long ways = 0;
    for (int left = j; left <= n; left++) {
      ways += Exact.choose(n, left) * Exact.power(t - 1, left);
    }
    return Exact.part(ways, Exact.power(t, n), part);
  }

  public int gap(int colour, int what) {
    if (noColour(colour)) {
      return refuse(NOBODY);
    }
    if (what < 0 || what > 1) {
      return refuse(OTHER);
    }
    Sheet s = now.sheets[colour];
    int where = s.gapEnd();
    if (where == 0) {
      return NONE;
    }
    return what == 1 ? where : s.lackBelow(where);
  }

  public int missing(int colour) {
    if (colour == -1) {
      return now.sheets[0].bits() & now.sheets[1].bits();
    }
    if (noColour(colour)) {
      return refuse(NOBODY);
    }
    Sheet s = now.sheets[colour];
    int ahead = 0;
    for (int v = 1; v < s.greatestOf(); v++) {
      ahead |= 1 << v;
    }
    return ahead & ~s.bits();
  }

  public int two(int a, int b, int colour, int n) {
    int no = noLooker(a) || noLooker(b) || a == b ? NOBODY : sheetRefusal(colour, n);
    if (no != 0) {
      return refuse(no);
    }
    if (now.sheets[colour].size == 0) {
      return NONE;
    }
    tallySheet(colour);
    for (int mine = 0; mine <= 1; mine++) {
      for (int his = 0; his <= 1; his++) {
        if (staysWith(a, mine, b, his, n) && staysWith(b, his, a, mine, n)) {
          return 10 * mine + his;
        }
      }
    }
    return NONE;
  }

  public int whatIs(int looker, int colour, int what) {
    if (noLooker(looker) || noColour(colour)) {
      return refuse(NOBODY);
    }
    if (what < 0 || what > 1) {
      return refuse(OTHER);
    }
    if (toldSize > now.sheets[colour].size) {
      return refuse(STATE);
    }
    return what == 0 ? kindsTold(looker, colour) : figuresTold(looker, colour);
  }

  public int row(int v) {
    if (v < 0) {
      return refuse(BELOW);
    }
    if (v > MOST_CUT || toldSize >= MOST_ROW) {
      return refuse(ROOM);
    }
    told[toldSize] = v;
    toldSize++;
    return toldSize;
  }

  public int judge(int n) {
    int no = cabsRefusal(n);
    if (no != 0) {
      return refuse(no);
    }
    int place = firstThatCouldNotBe(n);
    toldSize = 0;
    return place;
  }

  public int clear() {
    int had = toldSize;
    toldSize = 0;
    return had;
  }

  public int lots(int n, int z, int what) {
    if (n < 1) {
      return refuse(BELOW);
    }
    if (n > MOST_EVENINGS) {
      return refuse(ROOM);
    }
    if (what < 0 || what > 1) {
      return refuse(OTHER);
    }
    int seed = z;
    int together = 0;
    int above = 0;
    for (int round = 0; round < n; round++) {
      seed = seeByLot(seed);
      together += tally.greatest;
      if (Guess.above(PLAIN, 0, tally) > MOST_CABS * Guess.below(PLAIN, tally.many)) {
        above++;
      }
    }
    return what == 0 ? together : above;
  }

  public int image() {
    kept.copyFrom(now);
    hasImage = true;
    return now.seenInAll();
  }

  public int on() {
    if (!hasImage) {
      return refuse(STATE);
    }
    now.copyFrom(kept);
    return now.seenInAll();
  }

  public int count(int what) {
    switch (what) {
      case 0:
        return now.lookers;
      case 1:
        return now.sheets[0].size;
      case 2:
        return now.sheets[1].size;
      case 3:
        return now.allBelief();
      case 4:
        return now.allBets();
      case 5:
        return 0;
      case 6:
        return toldSize;
      case 7:
        return letters.size;
      default:
        return what >= 11 && what <= 16 ? refused[what - 10] : NONE;
    }
  }

  // ---- refusals

  private int refuse(int code) {
    int which = -code;
    if (which >= 1 && which < refused.length) {
      refused[which]++;
    }
    return code;
  }

  private long refuseLong(int code) {
    return LONG_REFUSAL - refuse(code);
  }

  private static boolean noColour(int colour) {
    return colour < 0 || colour >= COLOURS;
  }

  private boolean noLooker(int looker) {
    return looker < 0 || looker >= now.lookers;
  }

  private static boolean noPart(int part) {
    return part < 0 || part > 1;
  }

  private static int cabsRefusal(int n) {
    if (n < 1) {
      return BELOW;
    }
    return n > MOST_CABS ? ROOM : 0;
  }

  private static int sheetRefusal(int colour, int n) {
    return noColour(colour) ? NOBODY : cabsRefusal(n);
  }

  private static int partRefusal(int ahead, int part) {
    if (ahead != 0) {
      return ahead;
    }
    return noPart(part) ? OTHER : 0;
  }

  private static int waysRefusal(int n, int k, int mostCabs, int mostSeen) {
    if (n < 1 || k < 1) {
      return BELOW;
    }
    return n > mostCabs || k > mostSeen || k > n ? ROOM : 0;
  }

  private static int seenRefusal(int n, int k, int part) {
    return partRefusal(waysRefusal(n, k, MOST_CABS, MOST_SEEN), part);
  }

  private int offRefusal(int looker, int n, int k, int part) {
    if (noLooker(looker)) {
      return NOBODY;
    }
    return partRefusal(waysRefusal(n, k, MOST_OFF_CABS, MOST_OFF_SEEN), part);
  }

  // ---- an evening told in letters

  private int eveningOf() {
    int place = letters.firstSignFault();
    if (place >= 0) {
      return -1000 - place;
    }
    trial.copyFrom(now);
    place = letters.firstStatementFault(trial);
    if (place >= 0) {
      return -2000 - place;
    }
    now.copyFrom(trial);
    return letters.statements();
  }

  // ---- guesses

  private void tallySheet(int colour) {
    Sheet s = now.sheets[colour];
    s.tallyFirst(s.size, tally);
  }

  private long guessAbove(int looker) {
    return Guess.above(now.kinds[looker], now.figures[looker], tally);
  }

  private long guessBelow(int looker) {
    return Guess.below(now.kinds[looker], tally.many);
  }

  /** How far from n a looker's guess and some more is, by the guess's below. */
  private long farFrom(int looker, int some, int n) {
    int kind = now.kinds[looker];
    long below = Guess.below(kind, tally.many);
    return Math.abs(Guess.above(kind, now.figures[looker], tally) + (some - n) * below);
  }

  private int nearestLooker(int colour, int n) {
    if (now.sheets[colour].size == 0) {
      return NONE;
    }
    tallySheet(colour);
    int near = NONE;
    for (int looker = 0; looker < now.lookers; looker++) {
      if (near < 0 || compareFar(looker, 0, near, 0, n) < 0) {
        near = looker;
      }
    }
    return near;
  }

  private int compareFar(int one, int some, int other, int others, int n) {
    return Long.compare(farFrom(one, some, n) * guessBelow(other), farFrom(other, others, n) * guessBelow(one));
  }

  private int lookersAheadOf(int looker) {
    int ahead = 0;
    for (int other = 0; other < now.lookers; other++) {
      int order = Long.compare(guessAbove(other) * guessBelow(looker), guessAbove(looker) * guessBelow(other));
      if (order < 0 || (order == 0 && other < looker)) {
        ahead++;
      }
    }
    return ahead;
  }

  /** Over all ways to see k of n cabs: the squares of how far the guesses are, by their below's square. */
  private long squaresOff(int looker, int n, int k) {
    long sum = 0;
    for (int way = 0; way < 1 << n; way++) {
      if (Integer.bitCount(way) == k) {
        tally.takeWay(way);
        long far = farFrom(looker, 0, n);
        sum += far * far;
      }
    }
    return sum;
  }

  /** Over all ways to see k of n cabs: the guesses together, by their below. */
  private long guessesTogether(int looker, int n, int k) {
    long sum = 0;
    for (int way = 0; way < 1 << n; way++) {
      if (Integer.bitCount(way) == k) {
        tally.takeWay(way);
        sum += guessAbove(looker);
      }
    }
    return sum;
  }

  private boolean isAsLikely(int n, int a, int b) {
    return b * Exact.choose(tally.greatest, tally.many) >= a * Exact.choose(n, tally.many);
  }

  // ---- two who bet or not

  /** What a looker has who says mine more than his guess, while the other says his more. */
  private int gain(int looker, int mine, int other, int his, int n) {
    int order = compareFar(looker, mine, other, his, n);
    int has = order == 0 ? 1 : order < 0 ? 2 : 0;
    return has - mine;
  }

  private boolean staysWith(int looker, int mine, int other, int his, int n) {
    return gain(looker, mine, other, his, n) >= gain(looker, 1 - mine, other, his, n);
  }

  // ---- beliefs

  /** Belief of n times how likely the sheet is of n cabs, times COMMON. */
  private long weight(int colour, int n) {
    Sheet s = now.sheets[colour];
    long ways = Exact.choose(n, s.size);
    if (n < s.greatestOf() || ways == 0) {
      return 0;
    }
    return now.beliefs[n] * (COMMON / ways);
  }

  private long allWeights(int colour) {
    long sum = 0;
    for (int n = 1; n <= MOST_CABS; n++) {
      sum += weight(colour, n);
    }
    return sum;
  }

  private long weightsOfMore() {
    long sum = 0;
    long less = 0;
    for (int n = 1; n <= MOST_CABS; n++) {
      sum += weight(0, n) * less;
      less += weight(1, n);
    }
    return sum;
  }

  private long weightsOfAlike() {
    long sum = 0;
    for (int n = 1; n <= MOST_CABS; n++) {
      sum += weight(0, n) * weight(1, n);
    }
    return sum;
  }

  // ---- the row

  private int kindsTold(int looker, int colour) {
    int bits = 0;
    for (int kind = 0; kind < KINDS; kind++) {
      if (tellsRow(kind, now.figures[looker], colour)) {
        bits |= 1 << kind;
      }
    }
    return bits;
  }

  private int figuresTold(int looker, int colour) {
    int bits = 0;
    for (int figure = 0; figure <= MOST_DIGIT; figure++) {
      if (tellsRow(now.kinds[looker], figure, colour)) {
        bits |= 1 << figure;
      }
    }
    return bits;
  }

  private boolean tellsRow(int kind, int figure, int colour) {
    for (int i = 0; i < toldSize; i++) {
      now.sheets[colour].tallyFirst(i + 1, tally);
      if (Guess.cut(kind, figure, tally) != told[i]) {
        return false;
      }
    }
    return true;
  }

  private int firstThatCouldNotBe(int n) {
    int ahead = 0;
    for (int i = 0; i < toldSize; i++) {
      int v = told[i];
      if (v < 1 || v > n || (ahead >> v & 1) == 1) {
        return i;
      }
      ahead |= 1 << v;
    }
    return NONE;
  }

  // ---- evenings by lot

  /** Leaves in the tally what is seen on an evening; the answer is the seed behind it. */
  private int seeByLot(int seed) {
    int z = seed;
    int seen = 0;
    tally.start();
    for (int draw = 0; draw < DRAWS_BOUND && tally.many < SEEN_BY_LOT; draw++) {
      z = z * 1664525 + 1013904223;
      int v = 1 + (z & WITHOUT_SIGN) / 256 % MOST_CABS;
      if ((seen >> v & 1) == 0) {
        seen |= 1 << v;
        tally.take(v);
      }
    }
    return z;
  }

  /** What a guess needs of the numbers seen. */
  private static final class Tally {
    private int many;
    private int greatest;
    private int least;
    private int total;

    private void start() {
      many = 0;
      greatest = 0;
      least = 0;
      total = 0;
    }

    private void take(int v) {
      greatest = Math.max(greatest, v);
      least = many == 0 ? v : Math.min(least, v);
      total += v;
      many++;
    }

    /** The numbers of a way to see up to MOST_OFF_CABS cabs: bit 0 stands for number 1. */
    private void takeWay(int way) {
      start();
      for (int v = 1; v <= MOST_OFF_CABS; v++) {
        if ((way >> v - 1 & 1) == 1) {
          take(v);
        }
      }
    }
  }

  /** The numbers seen of one colour, in turn. */
  private static final class Sheet {
    private final int[] numbers;
    private int size;

    private Sheet() {
      numbers = new int[MOST_SEEN];
      size = 0;
    }

    private void copyFrom(Sheet other) {
      System.arraycopy(other.numbers, 0, numbers, 0, MOST_SEEN);
      size = other.size;
    }

    private int last() {
      return size > 0 ? numbers[size - 1] : 0;
    }

    private int bits() {
      int bits = 0;
      for (int i = 0; i < size; i++) {
        bits |= 1 << numbers[i];
      }
      return bits;
    }

    private int greatestOf() {
      int greatest = 0;
      for (int i = 0; i < size; i++) {
        greatest = Math.max(greatest, numbers[i]);
      }
      return greatest;
    }

    private int rising() {
      int rises = 0;
      int greatest = 0;
      for (int i = 0; i < size; i++) {
        if (numbers[i] > greatest) {
          greatest = numbers[i];
          rises++;
        }
      }
      return rises;
    }

    private void tallyFirst(int many, Tally tally) {
      tally.start();
      for (int i = 0; i < many && i < size; i++) {
        tally.take(numbers[i]);
      }
    }

    /** How many numbers lack between v and the one next below it. */
    private int lackBelow(int v) {
      int bits = bits();
      int lack = 0;
      for (int w = v - 1; w >= 1 && (bits >> w & 1) == 0; w--) {
        lack++;
      }
      return lack;
    }

    /** The number behind the greatest gap; 0 of an empty sheet. */
    private int gapEnd() {
      int bits = bits();
      int end = 0;
      for (int v = 1; v <= MOST_CABS; v++) {
        if ((bits >> v & 1) == 1 && (end == 0 || lackBelow(v) > lackBelow(end))) {
          end = v;
        }
      }
      return end;
    }
  }

  /** All that an image holds: sheets, beliefs and lookers. */
  private static final class World {
    private final Sheet[] sheets;
    private final int[] beliefs;
    private final int[] kinds;
    private final int[] figures;
    private final int[] bets;
    private int lookers;

    private World() {
      sheets = new Sheet[COLOURS];
      for (int colour = 0; colour < COLOURS; colour++) {
        sheets[colour] = new Sheet();
      }
      beliefs = new int[MOST_CABS + 1];
      for (int n = 1; n <= MOST_CABS; n++) {
        beliefs[n] = 1;
      }
      kinds = new int[MOST_LOOKERS];
      figures = new int[MOST_LOOKERS];
      bets = new int[MOST_LOOKERS];
      lookers = 0;
    }

    private void copyFrom(World other) {
      for (int colour = 0; colour < COLOURS; colour++) {
        sheets[colour].copyFrom(other.sheets[colour]);
      }
      System.arraycopy(other.beliefs, 0, beliefs, 0, MOST_CABS + 1);
      System.arraycopy(other.kinds, 0, kinds, 0, MOST_LOOKERS);
      System.arraycopy(other.figures, 0, figures, 0, MOST_LOOKERS);
      System.arraycopy(other.bets, 0, bets, 0, MOST_LOOKERS);
      lookers = other.lookers;
    }

    private boolean addSeen(int colour, int v) {
      if (noColour(colour) || v < 1 || v > MOST_CABS) {
        return false;
      }
      Sheet s = sheets[colour];
      if (s.size >= MOST_SEEN || (s.bits() >> v & 1) == 1) {
        return false;
      }
      s.numbers[s.size] = v;
      s.size++;
      return true;
    }

    private boolean dropSeen(int colour) {
      if (noColour(colour) || sheets[colour].size == 0) {
        return false;
      }
      sheets[colour].size--;
      return true;
    }

    private boolean emptySheet(int colour) {
      if (noColour(colour)) {
        return false;
      }
      sheets[colour].size = 0;
      return true;
    }

    private boolean setBelief(int n, int v) {
      if (n < 1 || n > MOST_CABS) {
        return false;
      }
      beliefs[n] = v;
      return true;
    }

    private boolean addLooker(int kind, int figure) {
      if (lookers >= MOST_LOOKERS) {
        return false;
      }
      kinds[lookers] = kind;
      figures[lookers] = figure;
      bets[lookers] = 0;
      lookers++;
      return true;
    }

    private boolean addBets(int looker, int some) {
      if (looker < 0 || looker >= lookers) {
        return false;
      }
      bets[looker] = Math.min(MOST_BETS, bets[looker] + some);
      return true;
    }

    private int allBelief() {
      int sum = 0;
      for (int n = 1; n <= MOST_CABS; n++) {
        sum += beliefs[n];
      }
      return sum;
    }

    private int allBets() {
      int sum = 0;
      for (int looker = 0; looker < lookers; looker++) {
        sum += bets[looker];
      }
      return sum;
    }

    private int seenInAll() {
      return sheets[0].size + sheets[1].size;
    }
  }

  /** The letters of an evening, and how its statements are read. */
  private static final class Letters {
    private final int[] signs;
    private int size;

    private Letters() {
      signs = new int[MOST_LETTERS];
      size = 0;
    }

    private void add(int c) {
      if (size < MOST_LETTERS) {
        signs[size] = c;
        size++;
      }
    }

    private int signAt(int place) {
      return place >= 0 && place < size ? signs[place] : 0;
    }

    private int digitAt(int place) {
      return signAt(place) - '0';
    }

    private int twoDigitsAt(int place) {
      return 10 * digitAt(place) + digitAt(place + 1);
    }

    private static int kindOf(int sign) {
      return KIND_LETTERS.indexOf((char) sign);
    }

    /** How many signs stand between a statement's first letter and its ";"; 0 where no statement begins so. */
    private static int signsBehind(int head) {
      switch (head) {
        case 's':
        case 'b':
          return 3;
        case 'l':
        case 'p':
          return 2;
        case 'w':
        case 'u':
          return 1;
        default:
          return 0;
      }
    }

    private static boolean fits(int head, int i, int sign) {
      if (i > signsBehind(head)) {
        return sign == ';';
      }
      if (head == 'l' && i == 1) {
        return kindOf(sign) >= 0;
      }
      return sign >= '0' && sign <= '9';
    }

    /** The place of the first letter with which no evening can go on; -1 if there is none. */
    private int firstSignFault() {
      if (size == 0) {
        return 0;
      }
      for (int start = 0; start < size; start += signsBehind(signs[start]) + 2) {
        int head = signs[start];
        int behind = signsBehind(head);
        if (behind == 0) {
          return start;
        }
        for (int i = 1; i <= behind + 1; i++) {
          if (start + i >= size || !fits(head, i, signs[start + i])) {
            return start + i;
          }
        }
      }
      return -1;
    }

    /** All statements come in a world, or the place of the first that can't is the answer; -1 if all came. */
    private int firstStatementFault(World world) {
      for (int start = 0; start < size; start += signsBehind(signs[start]) + 2) {
        if (!comes(start, world)) {
          return start;
        }
      }
      return -1;
    }

    private boolean comes(int start, World world) {
      switch (signAt(start)) {
        case 's':
          return world.addSeen(digitAt(start + 1), twoDigitsAt(start + 2));
        case 'b':
          return world.setBelief(twoDigitsAt(start + 1), digitAt(start + 3));
        case 'l':
          return world.addLooker(kindOf(signAt(start + 1)), digitAt(start + 2));
        case 'w':
          return world.emptySheet(digitAt(start + 1));
        case 'u':
          return world.dropSeen(digitAt(start + 1));
        case 'p':
          return world.addBets(digitAt(start + 1), digitAt(start + 2));
        default:
          return false;
      }
    }

    private int statements() {
      int ends = 0;
      for (int place = 0; place < size; place++) {
        if (signs[place] == ';') {
          ends++;
        }
      }
      return ends;
    }
  }

  /** The kinds' guesses by a tally, as fractions (not in least terms). */
  private static final class Guess {
    private static long above(int kind, int figure, Tally seen) {
      if (seen.many == 0) {
        return 0;
      }
      switch (kind) {
        case MOST:
          return seen.greatest;
        case TWICE:
          return twice(seen);
        case ENDS:
          return seen.many > 1 ? ends(seen) : plain(seen);
        case FAR:
          return seen.greatest + figure;
        case HALF:
          return twice(seen) + plain(seen);
        default:
          return plain(seen);
      }
    }

    private static long below(int kind, int many) {
      if (many <= 0) {
        return 1;
      }
      switch (kind) {
        case MOST:
        case FAR:
          return 1;
        case ENDS:
          return many > 1 ? many - 1 : 1;
        case HALF:
          return 2L * many;
        default:
          return many;
      }
    }

    private static long plain(Tally seen) {
      return (long) seen.greatest * (seen.many + 1) - seen.many;
    }

    private static long twice(Tally seen) {
      return 2L * seen.total - seen.many;
    }

    private static long ends(Tally seen) {
      long spaces = seen.many - 1;
      return seen.greatest * spaces + (seen.greatest - seen.least) - spaces;
    }

    private static long cut(int kind, int figure, Tally seen) {
      long below = below(kind, seen.many);
      long whole = below > 0 ? above(kind, figure, seen) / below : 0;
      return Math.max(0, Math.min(MOST_CUT, whole));
    }
  }

  /** Whole numbers that stay exact, and fractions in least terms. */
  private static final class Exact {
    private static long part(long above, long below, int part) {
      long common = divisor(above, below);
      if (above <= 0 || below <= 0 || common <= 0) {
        return part == 0 ? 0 : 1;
      }
      return (part == 0 ? above : below) / common;
    }

    private static long divisor(long one, long other) {
      long a = one;
      long b = other;
      for (int step = 0; step < DIVISOR_STEPS && b != 0; step++) {
        long rest = a % b;
        a = b;
        b = rest;
      }
      return a;
    }

    /** In how many ways k of n are chosen; 0 if there are fewer. */
    private static long choose(int n, int k) {
      if (k < 0 || n < k) {
        return 0;
      }
      long ways = 1;
      for (int i = 1; i <= k; i++) {
        ways = ways * (n - k + i) / i;
      }
      return ways;
    }

    private static long power(long base, int times) {
      long product = 1;
      for (int i = 0; i < times; i++) {
        product *= base;
      }
      return product;
    }

    /** In how many ways k are seen of n, each time any, so that just u are unlike. */
    private static long unlikeWays(int n, int k, int u) {
      long onto = 0;
      for (int out = 0; out <= u; out++) {
        long ways = choose(u, out) * power(u - out, k);
        onto += out % 2 == 0 ? ways : -ways;
      }
      return choose(n, u) * onto;
    }
  }
}
