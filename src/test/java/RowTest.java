/** Promises 37 to 39: the row, whether it could be seen, and that it is cleared. */
public final class RowTest {
  public static void main(String[] args) {
    row();
    judge();
    judgeRefused();
    clear();
    Check.end("RowTest");
  }

  private static void row() {
    SixtyOneCabs x = new SixtyOneCabs();
    Check.due("row(0)", x.row(0), 1);
    Check.due("row(99)", x.row(99), 2);
    Check.refused("row(-1)", x, 1, -4, x.row(-1));
    Check.refused("row(100)", x, 1, -6, x.row(100));
    for (int many = 3; many <= 16; many++) {
      Check.due("row(5)", x.row(5), many);
    }
    Check.refused("the 17th", x, 2, -6, x.row(5));
    Check.refused("below comes ahead of no room", x, 2, -4, x.row(-1));
    Check.due("16 stay", x.count(6), 16);
  }

  private static void judged(int n, int want, int... row) {
    SixtyOneCabs x = new SixtyOneCabs();
    for (int v : row) {
      x.row(v);
    }
    Check.due("judge(" + n + ") of " + java.util.Arrays.toString(row), x.judge(n), want);
    Check.due("no row then", x.count(6), 0);
    Check.due("and that could be", x.judge(n), -9);
  }

  private static void judge() {
    judged(5, -9);
    judged(5, -9, 5, 1, 2);
    judged(5, 0, 0, 6);
    judged(5, 1, 5, 6, 0);
    judged(5, 2, 1, 2, 1, 1);
    judged(5, 3, 1, 2, 3, 99);
    judged(5, 2, 1, 3, 3, 6);
    judged(1, -9, 1);
    judged(1, 1, 1, 1);
    judged(16, -9, 16, 15, 14, 13, 12, 11, 10, 9, 8, 7, 6, 5, 4, 3, 2, 1);
    judged(16, 15, 16, 15, 14, 13, 12, 11, 10, 9, 8, 7, 6, 5, 4, 3, 2, 2);
    judged(15, 0, 16, 15);
    judged(16, 1, 3, 35);
    judged(16, 0, 33, 1);
  }

  private static void judgeRefused() {
    SixtyOneCabs x = new SixtyOneCabs();
    x.row(3);
    Check.refused("judge(0)", x, 1, -4, x.judge(0));
    Check.refused("judge(MIN)", x, 2, -4, x.judge(Integer.MIN_VALUE));
    Check.refused("judge(17)", x, 1, -6, x.judge(17));
    Check.due("the row stays behind a refusal", x.count(6), 1);
  }

  private static void clear() {
    SixtyOneCabs x = new SixtyOneCabs();
    Check.due("clear() of none", x.clear(), 0);
    x.row(3);
    x.row(3);
    Check.due("clear()", x.clear(), 2);
    Check.due("none then", x.count(6), 0);
    Check.due("the first again", x.row(4), 1);
    Check.due("judged alone", x.judge(4), -9);
  }
}
