/** Promises 13, 14, 22, 23, 29, 30, 32 and 40: chances of what is seen, sure, look, again, gone, lots. */
public final class ChancesTest {
  private static final int MIN = Integer.MIN_VALUE;
  private static final int MAX = Integer.MAX_VALUE;

  public static void main(String[] args) {
    chance();
    most();
    seenRefused();
    sure();
    look();
    again();
    againRefused();
    likeliest();
    gone();
    goneRefused();
    lots();
    Check.end("ChancesTest");
  }

  private static void chanceOf(int n, int k, int v, long above, long below) {
    SixtyOneCabs x = new SixtyOneCabs();
    Check.fraction("chance(" + n + ", " + k + ", " + v + ")", x.chance(n, k, v, 0), x.chance(n, k, v, 1), above, below);
  }

  private static void chance() {
    chanceOf(4, 2, 1, 0, 1);
    chanceOf(4, 2, 2, 1, 6);
    chanceOf(4, 2, 3, 1, 3);
    chanceOf(4, 2, 4, 1, 2);
    chanceOf(4, 2, 5, 0, 1);
    chanceOf(4, 2, MIN, 0, 1);
    chanceOf(4, 2, MAX, 0, 1);
    chanceOf(4, 4, 4, 1, 1);
    chanceOf(1, 1, 1, 1, 1);
    chanceOf(16, 6, 16, 3, 8);
    chanceOf(16, 6, 6, 1, 8008);
  }

  private static void mostOf(int n, int k, int v, long above, long below) {
    SixtyOneCabs x = new SixtyOneCabs();
    Check.fraction("most(" + n + ", " + k + ", " + v + ")", x.most(n, k, v, 0), x.most(n, k, v, 1), above, below);
  }

  private static void most() {
    mostOf(4, 2, 1, 0, 1);
    mostOf(4, 2, 2, 1, 6);
    mostOf(4, 2, 3, 1, 2);
    mostOf(4, 2, 4, 1, 1);
    mostOf(4, 2, 5, 1, 1);
    mostOf(4, 2, MIN, 0, 1);
    mostOf(4, 2, MAX, 1, 1);
    mostOf(16, 6, 15, 5, 8);
    mostOf(1, 1, 0, 0, 1);
  }

  private static void seenRefused() {
    SixtyOneCabs x = new SixtyOneCabs();
    int[][] below = {{0, 1}, {17, 0}, {MIN, 1}, {5, -1}, {0, 7}};
    int[][] room = {{17, 1}, {16, 7}, {2, 3}, {MAX, 1}, {5, MAX}};
    int times = 0;
    for (int[] nk : below) {
      times++;
      Check.refusedLong("chance below", x, 2 * times - 1, -4, x.chance(nk[0], nk[1], 1, 2));
      Check.refusedLong("most below", x, 2 * times, -4, x.most(nk[0], nk[1], 1, 2));
    }
    times = 0;
    for (int[] nk : room) {
      times++;
      Check.refusedLong("chance room", x, 2 * times - 1, -6, x.chance(nk[0], nk[1], 1, 2));
      Check.refusedLong("most room", x, 2 * times, -6, x.most(nk[0], nk[1], 1, 2));
    }
    Check.refusedLong("chance other", x, 1, -2, x.chance(4, 2, 3, 2));
    Check.refusedLong("chance other", x, 2, -2, x.chance(4, 2, 3, -1));
    Check.refusedLong("most other", x, 3, -2, x.most(4, 2, 3, 2));
    Check.refusedLong("most other", x, 4, -2, x.most(4, 2, 3, -1));
  }

  private static void sure() {
    SixtyOneCabs x = Check.behind("s005;");
    Check.due("1 by 2", x.sure(0, 1, 2), 10);
    Check.due("1 by 1", x.sure(0, 1, 1), 5);
    Check.due("20 by 20", x.sure(0, 20, 20), 5);
    Check.due("5 by 16, just", x.sure(0, 5, 16), 16);
    Check.due("6 by 19", x.sure(0, 6, 19), 15);
    Check.due("1 by 20", x.sure(0, 1, 20), 16);
    Check.due("an empty sheet", x.sure(1, 1, 1), 16);
    Check.due("three numbers", Check.behind("s007;s011;s003;").sure(0, 1, 2), 13);
    Check.due("the greatest of all", Check.behind("s016;s003;").sure(0, 1, 1), 16);
    Check.refused("sure(2, 0, 0)", x, 1, -1, x.sure(2, 0, 0));
    Check.refused("sure(-1, 1, 2)", x, 2, -1, x.sure(-1, 1, 2));
    Check.refused("sure(0, 0, 21)", x, 1, -4, x.sure(0, 0, 21));
    Check.refused("sure(0, 5, 0)", x, 2, -4, x.sure(0, 5, 0));
    Check.refused("sure(1, 1, MIN)", x, 3, -4, x.sure(1, 1, MIN));
    Check.refused("sure(0, 1, 21)", x, 1, -6, x.sure(0, 1, 21));
    Check.refused("sure(0, 3, 2)", x, 2, -6, x.sure(0, 3, 2));
    Check.refused("sure(1, 21, 20), an empty sheet", x, 3, -6, x.sure(1, 21, 20));
  }

  private static void look() {
    SixtyOneCabs x = new SixtyOneCabs();
    Check.due("look(1, 1)", x.look(1, 1), 1);
    Check.due("look(4, 3): a half is not more likely", x.look(4, 3), 2);
    Check.due("look(4, 4)", x.look(4, 4), 3);
    Check.due("look(2, 2)", x.look(2, 2), 2);
    Check.due("look(11, 11)", x.look(11, 11), 6);
    Check.due("look(12, 12)", x.look(12, 12), -9);
    Check.due("look(5, 6)", x.look(5, 6), -9);
    Check.due("look(1, 16)", x.look(1, 16), -9);
    Check.due("look(16, 1)", x.look(16, 1), 1);
    Check.refused("look(0, 17)", x, 1, -4, x.look(0, 17));
    Check.refused("look(17, 0)", x, 2, -4, x.look(17, 0));
    Check.refused("look(17, 1)", x, 1, -6, x.look(17, 1));
    Check.refused("look(1, 17)", x, 2, -6, x.look(1, 17));
  }

  private static void againOf(int n, int k, int u, long above, long below) {
    SixtyOneCabs x = new SixtyOneCabs();
    Check.fraction("again(" + n + ", " + k + ", " + u + ")", x.again(n, k, u, 0), x.again(n, k, u, 1), above, below);
  }

  private static void again() {
    againOf(4, 2, 1, 1, 4);
    againOf(4, 2, 2, 3, 4);
    againOf(4, 2, 3, 0, 1);
    againOf(2, 3, 2, 3, 4);
    againOf(2, 3, 3, 0, 1);
    againOf(1, 6, 1, 1, 1);
    againOf(16, 6, 6, 45045, 131072);
    againOf(16, 6, 1, 1, 1048576);
    againOf(6, 6, 6, 5, 324);
    againOf(3, 4, 2, 14, 27);
  }

  private static void againRefused() {
    SixtyOneCabs x = new SixtyOneCabs();
    Check.refusedLong("again(0, 7, 1, 2)", x, 1, -4, x.again(0, 7, 1, 2));
    Check.refusedLong("again(17, 0, 1, 0)", x, 2, -4, x.again(17, 0, 1, 0));
    Check.refusedLong("again(5, 7, 0, 0)", x, 3, -4, x.again(5, 7, 0, 0));
    Check.refusedLong("again(17, 1, 1, 2)", x, 1, -6, x.again(17, 1, 1, 2));
    Check.refusedLong("again(5, 7, 1, 0)", x, 2, -6, x.again(5, 7, 1, 0));
    Check.refusedLong("again(5, 1, 7, 0)", x, 3, -6, x.again(5, 1, 7, 0));
    Check.refusedLong("again(5, 3, 2, 2)", x, 1, -2, x.again(5, 3, 2, 2));
    Check.refusedLong("again(5, 3, 2, -1)", x, 2, -2, x.again(5, 3, 2, -1));
  }

  private static void likeliest() {
    SixtyOneCabs x = new SixtyOneCabs();
    int[][] want = {{}, {-9}, {1, -9}, {1, 2, -9}, {1, 2, 5, -9}, {1, 2, 3, 8, -9}, {1, 2, 3, 6, 13, -9}};
    for (int k = 1; k <= 6; k++) {
      for (int u = 1; u <= k; u++) {
        Check.due("likeliest(" + k + ", " + u + ")", x.likeliest(k, u), want[k][u - 1]);
      }
    }
    Check.refused("likeliest(0, 7)", x, 1, -4, x.likeliest(0, 7));
    Check.refused("likeliest(7, 0)", x, 2, -4, x.likeliest(7, 0));
    Check.refused("likeliest(7, 7)", x, 1, -6, x.likeliest(7, 7));
    Check.refused("likeliest(6, 7), no -3", x, 2, -6, x.likeliest(6, 7));
    Check.refused("likeliest(2, 3)", x, 1, -3, x.likeliest(2, 3));
  }

  private static void goneOf(int n, int j, int t, long above, long below) {
    SixtyOneCabs x = new SixtyOneCabs();
    Check.fraction("gone(" + n + ", " + j + ", " + t + ")", x.gone(n, j, t, 0), x.gone(n, j, t, 1), above, below);
  }

  private static void gone() {
    goneOf(2, 0, 3, 1, 1);
    goneOf(2, 1, 2, 3, 4);
    goneOf(2, 1, 3, 8, 9);
    goneOf(2, 2, 3, 4, 9);
    goneOf(1, 1, 20, 19, 20);
    goneOf(12, 12, 2, 1, 4096);
    goneOf(12, 6, 20, 2047998986443831L, 2048000000000000L);
  }

  private static void goneRefused() {
    SixtyOneCabs x = new SixtyOneCabs();
    Check.refusedLong("gone(0, 5, 21, 2)", x, 1, -4, x.gone(0, 5, 21, 2));
    Check.refusedLong("gone(13, -1, 2, 0)", x, 2, -4, x.gone(13, -1, 2, 0));
    Check.refusedLong("gone(13, 0, 1, 0)", x, 3, -4, x.gone(13, 0, 1, 0));
    Check.refusedLong("gone(13, 0, 2, 2)", x, 1, -6, x.gone(13, 0, 2, 2));
    Check.refusedLong("gone(5, 6, 2, 0)", x, 2, -6, x.gone(5, 6, 2, 0));
    Check.refusedLong("gone(5, 5, 21, 0)", x, 3, -6, x.gone(5, 5, 21, 0));
    Check.refusedLong("gone(5, 5, 2, 2)", x, 1, -2, x.gone(5, 5, 2, 2));
    Check.refusedLong("gone(5, 5, 2, -1)", x, 2, -2, x.gone(5, 5, 2, -1));
  }

  private static void lotsOf(int n, int z, int greatest, int above) {
    SixtyOneCabs x = Check.behind("s005;lp0;");
    Check.due("lots(" + n + ", " + z + ", 0)", x.lots(n, z, 0), greatest);
    Check.due("lots(" + n + ", " + z + ", 1)", x.lots(n, z, 1), above);
    Check.due("nothing is seen by it", x.count(1), 1);
  }

  private static void lots() {
    lotsOf(1, 0, 10, 0);
    lotsOf(1, 1, 11, 0);
    lotsOf(3, 3, 43, 2);
    lotsOf(20, -1, 252, 8);
    lotsOf(20, MAX, 252, 8);
    lotsOf(5, MIN, 64, 2);
    lotsOf(20, 12345, 263, 9);
    SixtyOneCabs x = new SixtyOneCabs();
    Check.refused("lots(0, 0, 2)", x, 1, -4, x.lots(0, 0, 2));
    Check.refused("lots(21, 0, 2)", x, 1, -6, x.lots(21, 0, 2));
    Check.refused("lots(20, 0, 2)", x, 1, -2, x.lots(20, 0, 2));
    Check.refused("lots(1, 0, -1)", x, 2, -2, x.lots(1, 0, -1));
  }
}
