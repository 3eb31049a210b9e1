/** Promises 9, 10, 24 to 28 and 31: beliefs, before and behind a sheet. */
public final class BeliefsTest {
  /** Belief of 2 is 3, of 4 is 2, of all others 0. */
  private static final String TWO_OR_FOUR =
      "b010;b023;b030;b042;b050;b060;b070;b080;b090;b100;b110;b120;b130;b140;b150;b160;";

  public static void main(String[] args) {
    believes();
    before();
    behindASheet();
    alikeLikely();
    nothingIsBelieved();
    nextOfAll();
    more();
    refused();
    Check.end("BeliefsTest");
  }

  private static SixtyOneCabs twoOrFour() {
    return Check.behind(TWO_OR_FOUR);
  }

  private static void believes() {
    SixtyOneCabs x = new SixtyOneCabs();
    Check.due("believes(16, 9)", x.believes(16, 9), 1);
    Check.due("believes(16, 0)", x.believes(16, 0), 9);
    Check.due("believes(1, 4)", x.believes(1, 4), 1);
    Check.due("belief(16)", x.belief(16), 0);
    Check.due("belief(1)", x.belief(1), 4);
    Check.due("belief(2)", x.belief(2), 1);
    Check.due("all", x.count(3), 18);
    Check.refused("believes(0, 10)", x, 1, -4, x.believes(0, 10));
    Check.refused("believes(17, -1)", x, 2, -4, x.believes(17, -1));
    Check.refused("believes(17, 0)", x, 1, -6, x.believes(17, 0));
    Check.refused("believes(1, 10)", x, 2, -6, x.believes(1, 10));
    Check.refused("belief(0)", x, 3, -4, x.belief(0));
    Check.refused("belief(17)", x, 3, -6, x.belief(17));
    Check.due("nothing changed", x.count(3), 18);
  }

  private static void before() {
    SixtyOneCabs x = new SixtyOneCabs();
    Check.fraction("before(16)", x.before(16, 0), x.before(16, 1), 1, 16);
    x.believes(1, 0);
    x.believes(16, 9);
    Check.fraction("before(1)", x.before(1, 0), x.before(1, 1), 0, 1);
    Check.fraction("before(16)", x.before(16, 0), x.before(16, 1), 9, 23);
    x.believes(16, 2);
    Check.fraction("in least terms", x.before(16, 0), x.before(16, 1), 1, 8);
    x.sees(0, 3);
    Check.fraction("the sheet doesn't matter", x.before(16, 0), x.before(16, 1), 1, 8);
  }

  private static void behindASheet() {
    SixtyOneCabs x = twoOrFour();
    Check.fraction("after none", x.after(0, 2, 0), x.after(0, 2, 1), 3, 5);
    Check.due("which of none", x.which(0), 2);
    Check.fraction("about of none", x.about(0, 0), x.about(0, 1), 14, 5);
    x.sees(0, 2);
    Check.fraction("after(0, 2)", x.after(0, 2, 0), x.after(0, 2, 1), 3, 4);
    Check.fraction("after(0, 4)", x.after(0, 4, 0), x.after(0, 4, 1), 1, 4);
    Check.fraction("after(0, 3)", x.after(0, 3, 0), x.after(0, 3, 1), 0, 1);
    Check.due("which", x.which(0), 2);
    Check.fraction("about", x.about(0, 0), x.about(0, 1), 5, 2);
    Check.fraction("next", x.next(0, 0), x.next(0, 1), 1, 6);
    x.sees(0, 3);
    Check.fraction("2 are no more than seen", x.after(0, 2, 0), x.after(0, 2, 1), 0, 1);
    Check.due("which", x.which(0), 4);
    Check.fraction("next of 1 and 4", x.next(0, 0), x.next(0, 1), 1, 2);
    x.sees(0, 16);
    x.unsees(0);
    Check.due("what is unseen does not matter", x.which(0), 4);
    Check.fraction("the other colour", x.after(1, 2, 0), x.after(1, 2, 1), 3, 5);
  }

  private static void alikeLikely() {
    SixtyOneCabs fresh = new SixtyOneCabs();
    Check.due("all alike: 1", fresh.which(0), 1);
    Check.fraction("about of new", fresh.about(0, 0), fresh.about(0, 1), 17, 2);
    fresh.believes(16, 9);
    Check.due("16 is likeliest", fresh.which(0), 16);
    SixtyOneCabs x = twoOrFour();
    x.believes(2, 1);
    x.sees(0, 1);
    Check.due("alike: the least", x.which(0), 2);
    x.believes(4, 3);
    Check.due("4 is likelier", x.which(0), 4);
  }

  private static void noFraction(String call, long above, long below) {
    Check.fraction(call + " if all are 0", above, below, 0, 1);
  }

  private static void nothingIsBelieved() {
    SixtyOneCabs x = twoOrFour();
    x.sees(0, 5);
    noFraction("after", x.after(0, 5, 0), x.after(0, 5, 1));
    noFraction("about", x.about(0, 0), x.about(0, 1));
    noFraction("next", x.next(0, 0), x.next(0, 1));
    noFraction("more", x.more(0, 0), x.more(0, 1));
    noFraction("alike", x.more(1, 0), x.more(1, 1));
    Check.due("which", x.which(0), -9);
    x.believes(2, 0);
    x.believes(4, 0);
    noFraction("before", x.before(2, 0), x.before(2, 1));
    noFraction("after none", x.after(1, 2, 0), x.after(1, 2, 1));
    Check.due("which of none", x.which(1), -9);
  }

  private static void nextOfAll() {
    SixtyOneCabs x = new SixtyOneCabs();
    Check.fraction("the first is greater than none", x.next(0, 0), x.next(0, 1), 1, 1);
    Check.evening(x, TWO_OR_FOUR + "b040;");
    Check.evening(x, "s002;s001;");
    Check.fraction("nothing more to see", x.next(0, 0), x.next(0, 1), 0, 1);
    Check.evening(x, "b041;");
    // 3 of 2 cabs, and a sixth of 1 of 4 cabs, of which both others are greater: 1/6 by 3 and 1/6
    Check.fraction("of 2 none, of 4 surely", x.next(0, 0), x.next(0, 1), 1, 19);
    x = Check.behind("s007;s011;s003;");
    Check.fraction("as the tests tell", x.next(0, 0), x.next(0, 1), 17, 105);
    Check.fraction("about", x.about(0, 0), x.about(0, 1), 64, 5);
  }

  private static void more() {
    SixtyOneCabs x = twoOrFour();
    x.sees(0, 2);
    Check.fraction("more", x.more(0, 0), x.more(0, 1), 3, 20);
    Check.fraction("alike", x.more(1, 0), x.more(1, 1), 11, 20);
    x.sees(1, 4);
    Check.fraction("never more", x.more(0, 0), x.more(0, 1), 0, 1);
    Check.fraction("alike", x.more(1, 0), x.more(1, 1), 1, 4);
    x.sees(1, 5);
    noFraction("more", x.more(0, 0), x.more(0, 1));
    x = new SixtyOneCabs();
    Check.fraction("more of new", x.more(0, 0), x.more(0, 1), 15, 32);
    Check.fraction("alike of new", x.more(1, 0), x.more(1, 1), 1, 16);
    x.believes(1, 0);
    x.believes(16, 9);
    Check.fraction("alike", x.more(1, 0), x.more(1, 1), 95, 529);
    Check.refusedLong("more(2, 0)", x, 1, -2, x.more(2, 0));
    Check.refusedLong("more(-1, 0)", x, 2, -2, x.more(-1, 0));
    Check.refusedLong("more(0, 2)", x, 3, -2, x.more(0, 2));
    Check.refusedLong("more(1, -1)", x, 4, -2, x.more(1, -1));
  }

  private static void refused() {
    SixtyOneCabs x = new SixtyOneCabs();
    Check.refusedLong("before(0, 2)", x, 1, -4, x.before(0, 2));
    Check.refusedLong("before(17, 2)", x, 1, -6, x.before(17, 2));
    Check.refusedLong("before(5, 2)", x, 1, -2, x.before(5, 2));
    Check.refusedLong("before(5, -1)", x, 2, -2, x.before(5, -1));
    Check.refusedLong("after(2, 0, 2)", x, 1, -1, x.after(2, 0, 2));
    Check.refusedLong("after(-1, 5, 0)", x, 2, -1, x.after(-1, 5, 0));
    Check.refusedLong("after(0, 0, 2)", x, 2, -4, x.after(0, 0, 2));
    Check.refusedLong("after(0, 17, 2)", x, 2, -6, x.after(0, 17, 2));
    Check.refusedLong("after(0, 5, 2)", x, 3, -2, x.after(0, 5, 2));
    Check.refused("which(2)", x, 3, -1, x.which(2));
    Check.refused("which(-1)", x, 4, -1, x.which(-1));
    Check.refusedLong("about(2, 2)", x, 5, -1, x.about(2, 2));
    Check.refusedLong("about(-1, 0)", x, 6, -1, x.about(-1, 0));
    Check.refusedLong("about(0, 2)", x, 4, -2, x.about(0, 2));
    Check.refusedLong("next(2, 2)", x, 7, -1, x.next(2, 2));
    Check.refusedLong("next(-1, 0)", x, 8, -1, x.next(-1, 0));
    Check.refusedLong("next(0, -1)", x, 5, -2, x.next(0, -1));
  }
}
