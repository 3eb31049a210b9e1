/** Promises 1, 4 to 7, 33 and 34: a new object, what is seen, and what a sheet tells. */
public final class SheetsTest {
  private static final int MIN = Integer.MIN_VALUE;
  private static final int MAX = Integer.MAX_VALUE;

  public static void main(String[] args) {
    aNewObject();
    sees();
    unsees();
    sheet();
    of();
    rising();
    gap();
    missing();
    both();
    Check.end("SheetsTest");
  }

  private static void aNewObject() {
    SixtyOneCabs x = new SixtyOneCabs();
    int[] counts = {0, 0, 0, 16, 0, 0, 0, 0, -9, -9, -9, 0, 0, 0, 0, 0, 0, -9};
    for (int what = 0; what < counts.length; what++) {
      Check.due("new: count(" + what + ")", x.count(what), counts[what]);
    }
    for (int n = 1; n <= 16; n++) {
      Check.due("new: belief(" + n + ")", x.belief(n), 1);
    }
    Check.due("new: sheet(0, 0)", x.sheet(0, 0), -9);
    Check.due("new: sheet(1, 0)", x.sheet(1, 0), -9);
    Check.due("new: looker(0, 0)", x.looker(0, 0), -1);
    Check.due("new: on()", x.on(), -3);
    SixtyOneCabs other = new SixtyOneCabs();
    other.sees(0, 3);
    Check.due("another new object", new SixtyOneCabs().count(1), 0);
  }

  private static void sees() {
    SixtyOneCabs x = new SixtyOneCabs();
    int[] numbers = {16, 1, 9, 3, 12};
    for (int i = 0; i < numbers.length; i++) {
      Check.due("sees(0, " + numbers[i] + ")", x.sees(0, numbers[i]), i + 1);
    }
    Check.due("the same number of the other colour", x.sees(1, 16), 1);
    Check.refused("sees(-1, 0)", x, 1, -1, x.sees(-1, 0));
    Check.refused("sees(2, 17)", x, 2, -1, x.sees(2, 17));
    Check.refused("sees(0, 0)", x, 1, -4, x.sees(0, 0));
    Check.refused("sees(0, MIN)", x, 2, -4, x.sees(0, MIN));
    Check.refused("sees(0, 17)", x, 1, -6, x.sees(0, 17));
    Check.refused("sees(0, MAX)", x, 2, -6, x.sees(0, MAX));
    Check.refused("sees(0, 9) again", x, 1, -3, x.sees(0, 9));
    Check.due("the sixth", x.sees(0, 2), 6);
    Check.refused("a full sheet, new number", x, 3, -6, x.sees(0, 4));
    Check.refused("a full sheet comes ahead of twice", x, 4, -6, x.sees(0, 9));
    Check.refused("below comes ahead of a full sheet", x, 3, -4, x.sees(0, 0));
    Check.due("nothing changed", x.count(1), 6);
    Check.due("nor here", x.count(2), 1);
  }

  private static void unsees() {
    SixtyOneCabs x = Check.behind("s005;s011;s116;");
    Check.due("unsees(0)", x.unsees(0), 11);
    Check.due("behind it", x.count(1), 1);
    Check.due("it can be seen again", x.sees(0, 11), 2);
    Check.due("unsees(0)", x.unsees(0), 11);
    Check.due("unsees(0)", x.unsees(0), 5);
    Check.refused("unsees(0) of none", x, 1, -3, x.unsees(0));
    Check.due("unsees(1)", x.unsees(1), 16);
    Check.refused("unsees(-1)", x, 1, -1, x.unsees(-1));
    Check.refused("unsees(2)", x, 2, -1, x.unsees(2));
  }

  private static void sheet() {
    SixtyOneCabs x = Check.behind("s007;s011;s003;s102;");
    int[] want = {7, 11, 3, -9, -9, -9, -9};
    for (int i = 0; i < want.length; i++) {
      Check.due("sheet(0, " + i + ")", x.sheet(0, i), want[i]);
    }
    x.unsees(0);
    Check.due("what was unseen is not on it", x.sheet(0, 2), -9);
    Check.due("sheet(1, 0)", x.sheet(1, 0), 2);
    Check.due("sheet(0, MAX)", x.sheet(0, MAX), -9);
    Check.refused("sheet(2, -1)", x, 1, -1, x.sheet(2, -1));
    Check.refused("sheet(-1, 0)", x, 2, -1, x.sheet(-1, 0));
    Check.refused("sheet(0, -1)", x, 1, -4, x.sheet(0, -1));
    Check.refused("sheet(0, MIN)", x, 2, -4, x.sheet(0, MIN));
  }

  private static void of() {
    SixtyOneCabs x = Check.behind("s007;s011;s003;s116;");
    int[] want = {3, 11, 3, 21, 2};
    int[] other = {1, 16, 16, 16, 1};
    for (int what = 0; what < want.length; what++) {
      Check.due("of(0, " + what + ")", x.of(0, what), want[what]);
      Check.due("of(1, " + what + ")", x.of(1, what), other[what]);
    }
    x.unsees(1);
    for (int what = 0; what < want.length; what++) {
      Check.due("of(1, " + what + ") of none", x.of(1, what), 0);
    }
    Check.refused("of(2, 9)", x, 1, -1, x.of(2, 9));
    Check.refused("of(-1, 0)", x, 2, -1, x.of(-1, 0));
    Check.refused("of(0, 5)", x, 1, -2, x.of(0, 5));
    Check.refused("of(0, -1)", x, 2, -2, x.of(0, -1));
  }

  private static void rising() {
    Check.due("all rise", Check.behind("s001;s002;s003;s004;s005;s006;").of(0, 4), 6);
    Check.due("none but the first", Check.behind("s006;s005;s004;s001;").of(0, 4), 1);
    Check.due("greater than all ahead, not than the last", Check.behind("s005;s002;s004;s006;").of(0, 4), 2);
  }

  private static void gap() {
    gapOf("s007;s011;s003;", 3, 7);
    gapOf("s016;", 15, 16);
    gapOf("s001;", 0, 1);
    gapOf("s003;s001;s002;", 0, 1);
    gapOf("s010;s005;", 4, 5);
    gapOf("s001;s005;s003;", 1, 3);
    gapOf("s001;s002;s016;", 13, 16);
    SixtyOneCabs x = new SixtyOneCabs();
    Check.due("gap of none", x.gap(1, 0), -9);
    Check.due("where of none", x.gap(1, 1), -9);
    Check.refused("gap(2, 2)", x, 1, -1, x.gap(2, 2));
    Check.refused("gap(-1, 0)", x, 2, -1, x.gap(-1, 0));
    Check.refused("gap(0, 2)", x, 1, -2, x.gap(0, 2));
    Check.refused("gap(0, -1)", x, 2, -2, x.gap(0, -1));
  }

  private static void gapOf(String text, int lack, int where) {
    SixtyOneCabs x = Check.behind(text);
    Check.due(text + " gap", x.gap(0, 0), lack);
    Check.due(text + " where", x.gap(0, 1), where);
  }

  private static void missing() {
    SixtyOneCabs x = Check.behind("s004;s002;");
    Check.due("missing 1 and 3", x.missing(0), 10);
    Check.due("missing of none", x.missing(1), 0);
    x.sees(1, 1);
    Check.due("missing of 1", x.missing(1), 0);
    x.sees(1, 16);
    Check.due("missing 2 .. 15", x.missing(1), 65532);
    x.unsees(1);
    Check.due("missing of 1 again", x.missing(1), 0);
    Check.due("of a full sheet", Check.behind("s001;s002;s003;s004;s005;s007;").missing(0), 64);
    Check.refused("missing(2)", x, 1, -1, x.missing(2));
    Check.refused("missing(-2)", x, 2, -1, x.missing(-2));
  }

  private static void both() {
    SixtyOneCabs x = Check.behind("s002;s004;s016;s104;s109;s102;");
    Check.due("both 2 and 4", x.missing(-1), 20);
    x.sees(1, 16);
    Check.due("both 2, 4, 16", x.missing(-1), 65556);
    Check.due("both of a new object", new SixtyOneCabs().missing(-1), 0);
  }
}
