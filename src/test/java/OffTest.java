/** Promises 18 to 21: how far off lookers are, their mean, whether it is right, and who is best. */
public final class OffTest {
  private static final String ALL_KINDS = "lp1;lm1;lt1;le1;lf1;lh1;";

  public static void main(String[] args) {
    offOfTwo();
    offOfThree();
    offOfMore();
    sheetsDoNotMatter();
    refused();
    fair();
    best();
    Check.end("OffTest");
  }

  private static void offs(int n, int k, long... want) {
    SixtyOneCabs x = Check.behind(ALL_KINDS);
    for (int l = 0; l < 6; l++) {
      Check.fraction("off(" + l + ", " + n + ", " + k + ")", x.off(l, n, k, 0), x.off(l, n, k, 1), want[2 * l], want[2 * l + 1]);
    }
  }

  private static void means(int n, int k, long... want) {
    SixtyOneCabs x = Check.behind(ALL_KINDS);
    for (int l = 0; l < 6; l++) {
      Check.fraction("mean(" + l + ", " + n + ", " + k + ")", x.mean(l, n, k, 0), x.mean(l, n, k, 1), want[2 * l], want[2 * l + 1]);
    }
  }

  private static void offOfTwo() {
    offs(1, 1, 0, 1, 0, 1, 0, 1, 0, 1, 1, 1, 0, 1);
    means(1, 1, 1, 1, 1, 1, 1, 1, 1, 1, 2, 1, 1, 1);
    offs(2, 1, 1, 1, 1, 2, 1, 1, 1, 1, 1, 2, 1, 1);
    means(2, 1, 2, 1, 3, 2, 2, 1, 2, 1, 5, 2, 2, 1);
  }

  private static void offOfThree() {
    offs(3, 2, 1, 2, 1, 3, 2, 3, 2, 3, 2, 3, 13, 24);
    means(3, 2, 3, 1, 8, 3, 3, 1, 3, 1, 11, 3, 3, 1);
    offs(4, 4, 0, 1, 0, 1, 0, 1, 0, 1, 1, 1, 0, 1);
  }

  private static void offOfMore() {
    // Of a PLAIN one it is (n - k) (n + 1) / (k (k + 2)).
    SixtyOneCabs x = Check.behind("lp0;");
    Check.fraction("off(0, 10, 4)", x.off(0, 10, 4, 0), x.off(0, 10, 4, 1), 11, 4);
    Check.fraction("off(0, 10, 1)", x.off(0, 10, 1, 0), x.off(0, 10, 1, 1), 33, 1);
    Check.fraction("off(0, 9, 2)", x.off(0, 9, 2, 0), x.off(0, 9, 2, 1), 35, 4);
    Check.fraction("mean(0, 10, 3)", x.mean(0, 10, 3, 0), x.mean(0, 10, 3, 1), 10, 1);
    // Of a MOST one the mean is k (n + 1) / (k + 1).
    x.turn(0, 1, 0);
    Check.fraction("mean(0, 10, 4)", x.mean(0, 10, 4, 0), x.mean(0, 10, 4, 1), 44, 5);
    // Of a FAR one it is FIGURE more.
    x.turn(0, 4, 9);
    Check.fraction("mean(0, 10, 4)", x.mean(0, 10, 4, 0), x.mean(0, 10, 4, 1), 89, 5);
  }

  private static void sheetsDoNotMatter() {
    SixtyOneCabs x = Check.behind("lp0;s016;s015;s116;");
    Check.due("off", x.off(0, 9, 2, 0), 35);
    Check.due("mean", x.mean(0, 9, 2, 0), 9);
    Check.due("fair", x.fair(0, 2), 1);
    Check.due("best", x.best(9, 2), 0);
  }

  private static void refused() {
    SixtyOneCabs x = Check.behind("lp0;");
    int[][] nobody = {{1, 0, 0}, {-1, 5, 2}};
    int[][] below = {{0, 0, 5}, {0, 11, 0}};
    int[][] room = {{0, 11, 1}, {0, 10, 5}, {0, 3, 4}};
    refusedAll(x, -1, nobody);
    refusedAll(x, -4, below);
    refusedAll(x, -6, room);
    Check.refusedLong("off part 2", x, 1, -2, x.off(0, 3, 2, 2));
    Check.refusedLong("off part -1", x, 2, -2, x.off(0, 3, 2, -1));
    Check.refusedLong("mean part 2", x, 3, -2, x.mean(0, 3, 2, 2));
    Check.refusedLong("mean part -1", x, 4, -2, x.mean(0, 3, 2, -1));
  }

  private static void refusedAll(SixtyOneCabs x, int code, int[][] values) {
    int times = 0;
    for (int[] v : values) {
      times += 2;
      Check.refusedLong("off", x, times - 1, code, x.off(v[0], v[1], v[2], 2));
      Check.refusedLong("mean", x, times, code, x.mean(v[0], v[1], v[2], 2));
    }
  }

  private static void fair() {
    SixtyOneCabs x = Check.behind("lp0;lm0;lt0;le0;lf0;lh0;");
    int[] want = {1, 0, 1, 1, 0, 1};
    for (int l = 0; l < 6; l++) {
      for (int k = 1; k <= 4; k++) {
        Check.due("fair(" + l + ", " + k + ")", x.fair(l, k), want[l]);
      }
    }
    x.turn(4, 4, 1);
    Check.due("FAR by 1", x.fair(4, 1), 0);
    Check.refused("fair(6, 0)", x, 1, -1, x.fair(6, 0));
    Check.refused("fair(-1, 1)", x, 2, -1, x.fair(-1, 1));
    Check.refused("fair(0, 0)", x, 1, -4, x.fair(0, 0));
    Check.refused("fair(0, 5)", x, 1, -6, x.fair(0, 5));
  }

  private static void best() {
    Check.due("no lookers", new SixtyOneCabs().best(5, 2), -9);
    SixtyOneCabs x = Check.behind(ALL_KINDS);
    Check.due("alike off: the least", x.best(2, 1), 1);
    Check.due("best(3, 2)", x.best(3, 2), 1);
    Check.due("best(1, 1)", x.best(1, 1), 0);
    Check.due("best(4, 4)", x.best(4, 4), 0);
    Check.due("fractions of unlike belows", Check.behind("lt0;lh0;lp0;").best(3, 2), 2);
    Check.due("and by the square of them", Check.behind("lt0;lh0;").best(3, 2), 1);
    Check.refused("best(0, 5)", x, 1, -4, x.best(0, 5));
    Check.refused("best(11, 0)", x, 2, -4, x.best(11, 0));
    Check.refused("best(11, 1)", x, 1, -6, x.best(11, 1));
    Check.refused("best(5, 5)", x, 2, -6, x.best(5, 5));
    Check.refused("best(3, 4)", x, 3, -6, x.best(3, 4));
  }
}
