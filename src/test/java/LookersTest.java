/** Promises 8, 11, 12, 15 to 17, 35 and 36: lookers, their guesses, who is nearest, two who bet, what one is. */
public final class LookersTest {
  private static final String ALL_KINDS = "lp4;lm4;lt4;le4;lf4;lh4;";

  public static void main(String[] args) {
    looker();
    turn();
    paid();
    guesses();
    guessRefused();
    nearest();
    ordered();
    two();
    twoRefused();
    whatIs();
    whatIsRefused();
    Check.end("LookersTest");
  }

  private static void looker() {
    SixtyOneCabs x = Check.behind("lh9;lm0;p07;");
    Check.due("kind", x.looker(0, 0), 5);
    Check.due("figure", x.looker(0, 1), 9);
    Check.due("bets", x.looker(0, 2), 7);
    Check.due("kind of 1", x.looker(1, 0), 1);
    Check.refused("looker(2, 3)", x, 1, -1, x.looker(2, 3));
    Check.refused("looker(-1, 0)", x, 2, -1, x.looker(-1, 0));
    Check.refused("looker(0, 3)", x, 1, -2, x.looker(0, 3));
    Check.refused("looker(0, -1)", x, 2, -2, x.looker(0, -1));
  }

  private static void turn() {
    SixtyOneCabs x = Check.behind("lp3;lh9;p14;");
    Check.due("turn(0, 4, 9)", x.turn(0, 4, 9), 3);
    Check.due("turn(0, 5, 0)", x.turn(0, 5, 0), 49);
    Check.due("turn(1, 0, 0)", x.turn(1, 0, 0), 59);
    Check.due("kind", x.looker(0, 0), 5);
    Check.due("figure", x.looker(0, 1), 0);
    Check.due("bets stay", x.looker(1, 2), 4);
    Check.refused("turn(2, 9, -1)", x, 1, -1, x.turn(2, 9, -1));
    Check.refused("turn(-1, 0, 0)", x, 2, -1, x.turn(-1, 0, 0));
    Check.refused("turn(0, 6, -1)", x, 1, -2, x.turn(0, 6, -1));
    Check.refused("turn(0, -1, 10)", x, 2, -2, x.turn(0, -1, 10));
    Check.refused("turn(0, 0, -1)", x, 1, -4, x.turn(0, 0, -1));
    Check.refused("turn(0, 0, 10)", x, 1, -6, x.turn(0, 0, 10));
    Check.due("nothing changed", x.turn(0, 0, 0), 50);
  }

  private static void paid() {
    SixtyOneCabs x = Check.behind("s008;lm0;lf2;p19;");
    Check.due("paid(0, 8)", x.paid(0, 8), 0);
    Check.due("paid(0, 10)", x.paid(0, 10), 1);
    Check.due("alike near: the least", x.paid(0, 9), 0);
    Check.due("bets of 0", x.looker(0, 2), 2);
    Check.due("bets of 1", x.looker(1, 2), 10);
    Check.due("an empty sheet", x.paid(1, 9), -9);
    Check.due("bets are as they were", x.count(4), 12);
    for (int i = 0; i < 100; i++) {
      Check.due("paid(0, 8)", x.paid(0, 8), 0);
    }
    Check.due("99 at most", x.looker(0, 2), 99);
    Check.refused("paid(2, 0)", x, 1, -1, x.paid(2, 0));
    Check.refused("paid(-1, 1)", x, 2, -1, x.paid(-1, 1));
    Check.refused("paid(0, 0)", x, 1, -4, x.paid(0, 0));
    Check.refused("paid(0, 17)", x, 1, -6, x.paid(0, 17));
    Check.due("no lookers", Check.behind("s008;").paid(0, 8), -9);
  }

  private static void guessesOf(String sheet, long... want) {
    SixtyOneCabs x = Check.behind(ALL_KINDS + sheet);
    for (int kind = 0; kind < 6; kind++) {
      Check.fraction(sheet + " kind " + kind, x.guess(kind, 0, 0), x.guess(kind, 0, 1), want[2 * kind], want[2 * kind + 1]);
    }
  }

  private static void guesses() {
    guessesOf("s007;s011;s003;", 41, 3, 11, 1, 13, 1, 14, 1, 15, 1, 40, 3);
    guessesOf("s009;s002;", 25, 2, 9, 1, 10, 1, 15, 1, 13, 1, 45, 4);
    guessesOf("s001;", 1, 1, 1, 1, 1, 1, 1, 1, 5, 1, 1, 1);
    guessesOf("s016;", 31, 1, 16, 1, 31, 1, 31, 1, 20, 1, 31, 1);
    guessesOf("s001;s002;s003;s004;s005;s016;", 53, 3, 16, 1, 28, 3, 18, 1, 20, 1, 27, 2);
    guessesOf("s108;", 0, 1, 0, 1, 0, 1, 0, 1, 0, 1, 0, 1);
  }

  private static void guessRefused() {
    SixtyOneCabs x = Check.behind("lp0;s005;");
    Check.refusedLong("guess(1, 0, 2)", x, 1, -1, x.guess(1, 0, 2));
    Check.refusedLong("guess(-1, 0, 0)", x, 2, -1, x.guess(-1, 0, 0));
    Check.refusedLong("guess(0, 2, 0)", x, 3, -1, x.guess(0, 2, 0));
    Check.refusedLong("guess(0, -1, -1)", x, 4, -1, x.guess(0, -1, -1));
    Check.refusedLong("guess(0, 0, 2)", x, 1, -2, x.guess(0, 0, 2));
    Check.refusedLong("guess(0, 0, -1)", x, 2, -2, x.guess(0, 0, -1));
  }

  private static void nearest() {
    // 12 and a half, 9, 10, 15, 13, 11 and a quarter
    SixtyOneCabs x = Check.behind(ALL_KINDS + "s002;s009;");
    int[] want = {1, 1, 1, 1, 1, 1, 1, 1, 1, 2, 5, 0, 4, 3, 3, 3};
    for (int n = 1; n <= 16; n++) {
      Check.due("nearest(0, " + n + ")", x.nearest(0, n), want[n - 1]);
    }
    Check.due("an empty sheet", x.nearest(1, 5), -9);
    Check.due("no lookers", Check.behind("s005;").nearest(0, 5), -9);
    Check.due("alike near: the least", Check.behind("s008;lf2;lm0;").nearest(0, 9), 0);
    Check.due("exactly, not cut", Check.behind("s009;s002;lp0;lf4;").nearest(0, 13), 1);
    Check.due("bets don't change", x.count(4), 0);
    Check.refused("nearest(2, 0)", x, 1, -1, x.nearest(2, 0));
    Check.refused("nearest(-1, 1)", x, 2, -1, x.nearest(-1, 1));
    Check.refused("nearest(0, 0)", x, 1, -4, x.nearest(0, 0));
    Check.refused("nearest(1, 17)", x, 1, -6, x.nearest(1, 17));
  }

  private static void ordered() {
    SixtyOneCabs x = Check.behind(ALL_KINDS + "s002;s009;s116;");
    int[] want = {1, 2, 5, 0, 4, 3, -9};
    int[] ofOne = {1, 4, 0, 2, 3, 5, -9};
    for (int i = 0; i < want.length; i++) {
      Check.due("ordered(0, " + i + ")", x.ordered(0, i), want[i]);
      Check.due("ordered(1, " + i + ")", x.ordered(1, i), ofOne[i]);
    }
    Check.due("ordered(0, MAX)", x.ordered(0, Integer.MAX_VALUE), -9);
    x.unsees(1);
    Check.due("an empty sheet", x.ordered(1, 0), -9);
    Check.due("no lookers", Check.behind("s005;").ordered(0, 0), -9);
    Check.refused("ordered(2, -1)", x, 1, -1, x.ordered(2, -1));
    Check.refused("ordered(-1, 0)", x, 2, -1, x.ordered(-1, 0));
    Check.refused("ordered(0, -1)", x, 1, -4, x.ordered(0, -1));
  }

  private static void two() {
    // MOST guesses 8, FAR 9.
    SixtyOneCabs x = Check.behind("s008;lm0;lf1;lf0;");
    Check.due("nobody gains by one more", x.two(0, 1, 0, 10), 0);
    Check.due("alike: one more costs what it brings", x.two(0, 2, 0, 16), 0);
    // FAR guesses 12, PLAIN 12 and a half.
    x = Check.behind("s002;s009;lf3;lp0;");
    Check.due("12 says one more of 13", x.two(0, 1, 0, 13), 10);
    Check.due("and as the other", x.two(1, 0, 0, 13), 1);
    Check.due("each would be nearer by one more", x.two(0, 1, 0, 16), -9);
    Check.due("and the other way", x.two(1, 0, 0, 16), -9);
    Check.due("both are above", x.two(0, 1, 0, 5), 0);
    Check.due("an empty sheet", x.two(0, 1, 1, 5), -9);
  }

  private static void twoRefused() {
    SixtyOneCabs x = Check.behind("s008;lm0;lf1;");
    Check.refused("two(0, 0, 0, 0)", x, 1, -1, x.two(0, 0, 0, 0));
    Check.refused("two(2, 0, 0, 5)", x, 2, -1, x.two(2, 0, 0, 5));
    Check.refused("two(0, 2, 0, 17)", x, 3, -1, x.two(0, 2, 0, 17));
    Check.refused("two(-1, 0, 0, 5)", x, 4, -1, x.two(-1, 0, 0, 5));
    Check.refused("two(0, -1, 0, 5)", x, 5, -1, x.two(0, -1, 0, 5));
    Check.refused("two(0, 1, 2, 5)", x, 6, -1, x.two(0, 1, 2, 5));
    Check.refused("two(0, 1, -1, 0)", x, 7, -1, x.two(0, 1, -1, 0));
    Check.refused("two(0, 1, 0, 0)", x, 1, -4, x.two(0, 1, 0, 0));
    Check.refused("two(0, 1, 1, 0), an empty sheet", x, 2, -4, x.two(0, 1, 1, 0));
    Check.refused("two(0, 1, 0, 17)", x, 1, -6, x.two(0, 1, 0, 17));
  }

  private static void told(String looker, int kinds, int figures, int... row) {
    SixtyOneCabs x = Check.behind("s007;s011;s003;" + looker);
    String call = looker + " " + java.util.Arrays.toString(row);
    for (int v : row) {
      x.row(v);
    }
    Check.due(call + " kinds", x.whatIs(0, 0, 0), kinds);
    Check.due(call + " figures", x.whatIs(0, 0, 1), figures);
    Check.due(call + ": the row stays", x.count(6), row.length);
  }

  private static void whatIs() {
    told("lp6;", 63, 1023);
    told("lp5;", 45, 1023, 13);
    told("lp6;", 61, 1023, 13);
    told("lm0;", 18, 1023, 7);
    told("lm1;", 2, 1023, 7);
    told("lf4;", 16, 16, 11);
    told("lp4;", 16, 0, 11);
    told("lp4;", 1, 1023, 13, 15);
    told("lh4;", 32, 1023, 13, 16);
    told("lf3;", 16, 8, 10, 14, 14);
    told("lf2;", 0, 8, 10, 14, 14);
    told("lt0;", 4, 1023, 13, 17, 13);
    told("le0;", 8, 1023, 13, 14, 14);
    told("lh0;", 32, 1023, 13, 16, 13);
    told("lp0;", 1, 1023, 13, 15, 13);
    told("lm0;", 18, 1023, 7, 11, 11);
    told("lp0;", 0, 0, 13, 15, 14);
  }

  private static void whatIsRefused() {
    SixtyOneCabs x = Check.behind("s007;s111;s112;lp0;");
    x.row(13);
    x.row(17);
    Check.refused("the row is longer", x, 1, -3, x.whatIs(0, 0, 0));
    Check.refused("whatIs(1, 0, 2)", x, 1, -1, x.whatIs(1, 0, 2));
    Check.refused("whatIs(-1, 0, 0)", x, 2, -1, x.whatIs(-1, 0, 0));
    Check.refused("whatIs(0, 2, 0)", x, 3, -1, x.whatIs(0, 2, 0));
    Check.refused("whatIs(0, -1, 0)", x, 4, -1, x.whatIs(0, -1, 0));
    Check.refused("whatIs(0, 0, 2)", x, 1, -2, x.whatIs(0, 0, 2));
    Check.refused("whatIs(0, 0, -1)", x, 2, -2, x.whatIs(0, 0, -1));
    Check.due("as long as the other sheet", x.whatIs(0, 1, 0), 0);
  }
}
