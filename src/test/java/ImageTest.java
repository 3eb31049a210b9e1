/** Promises 41 to 43: the image, on from it, and what is counted. */
public final class ImageTest {
  public static void main(String[] args) {
    image();
    imageOfNothing();
    imageAgain();
    count();
    Check.end("ImageTest");
  }

  private static void image() {
    SixtyOneCabs x = Check.behind("s005;s011;s116;lf3;lm0;p17;b020;");
    Check.refused("on() of none", x, 1, -3, x.on());
    Check.due("image()", x.image(), 3);
    Check.due("more comes", Check.evening(x, "w0;s101;s102;lp0;p09;p19;b029;b160;"), 8);
    x.turn(0, 5, 9);
    x.row(7);
    x.row(8);
    x.letter('s');
    Check.due("refused", x.looker(5, 0), -1);
    Check.due("on()", x.on(), 3);
    asTaken(x);
    Check.due("the row stays", x.count(6), 2);
    Check.due("letters stay", x.count(7), 1);
    Check.due("refusals -1 stay", x.count(11), 1);
    Check.due("refusals -3 stay", x.count(13), 1);
    x.unsees(1);
    x.believes(2, 3);
    Check.due("the image is there still", x.on(), 3);
    asTaken(x);
  }

  private static void asTaken(SixtyOneCabs x) {
    int[] numbers = {5, 11, -9};
    for (int i = 0; i < numbers.length; i++) {
      Check.due("sheet(0, " + i + ")", x.sheet(0, i), numbers[i]);
    }
    Check.due("sheet(1, 0)", x.sheet(1, 0), 16);
    Check.due("seen of 1", x.count(2), 1);
    int[] lookers = {4, 3, 0, 1, 0, 7};
    for (int i = 0; i < lookers.length; i++) {
      Check.due("looker " + i / 3 + ", " + i % 3, x.looker(i / 3, i % 3), lookers[i]);
    }
    Check.due("lookers", x.count(0), 2);
    Check.due("belief of 2", x.belief(2), 0);
    Check.due("all belief", x.count(3), 15);
  }

  private static void imageOfNothing() {
    SixtyOneCabs x = new SixtyOneCabs();
    Check.due("image() of nothing", x.image(), 0);
    Check.evening(x, "s005;lp0;b010;");
    Check.due("on() to nothing", x.on(), 0);
    Check.due("no lookers", x.count(0), 0);
    Check.due("none seen", x.count(1), 0);
    Check.due("belief", x.belief(1), 1);
    Check.due("a looker comes without bets", Check.evening(x, "lm2;"), 1);
    Check.due("none", x.looker(0, 2), 0);
  }

  private static void imageAgain() {
    SixtyOneCabs x = Check.behind("s005;");
    x.image();
    x.sees(0, 6);
    Check.due("a later image", x.image(), 2);
    x.unsees(0);
    x.unsees(0);
    Check.due("on from the later", x.on(), 2);
    Check.due("its last", x.unsees(0), 6);
    x.evening();
    Check.evening(x, "lp0;lp0;p19;");
    x.image();
    x.on();
    Check.due("bets", x.count(4), 9);
  }

  private static void count() {
    SixtyOneCabs x = Check.behind("s005;s011;s116;lf3;lm0;p17;p02;b029;");
    x.row(1);
    x.letter('x');
    x.letter('y');
    x.sees(2, 1);
    x.of(0, 9);
    x.of(0, 9);
    x.sees(0, 5);
    x.sees(0, 5);
    x.sees(0, 5);
    x.sees(0, 0);
    x.chance(0, 1, 1, 0);
    x.sees(0, 17);
    int[] want = {2, 2, 1, 24, 9, 0, 1, 2, -9, -9, -9, 1, 2, 3, 2, 0, 1, -9};
    for (int what = 0; what < want.length; what++) {
      Check.due("count(" + what + ")", x.count(what), want[what]);
    }
    Check.due("count(-1)", x.count(-1), -9);
    Check.due("count(MIN)", x.count(Integer.MIN_VALUE), -9);
    Check.due("count(MAX)", x.count(Integer.MAX_VALUE), -9);
    Check.due("count(-9) is no refusal", x.count(12), 2);
  }
}
