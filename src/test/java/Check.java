/** Counts answers that are not as due, prints them, and ends with exit code 1 if there was one. */
final class Check {
  private static final long LONG_REFUSAL = 4000000000000000000L;
  private static int looked = 0;
  private static int wrong = 0;

  private Check() {}

  static void due(String call, long got, long want) {
    looked++;
    if (got != want) {
      wrong++;
      System.out.println(call + " answered " + got + ", due is " + want);
    }
  }

  static void holds(String what, boolean so) {
    due(what, so ? 1 : 0, 1);
  }

  /** A refusal of a call that answers an int: the last of the refusals of this code that x has counted. */
  static void refused(String call, SixtyOneCabs x, int times, int code, long got) {
    due(call, got, code);
    due(call + ", refusals " + code + " so far", x.count(10 - code), times);
  }

  static void refusedLong(String call, SixtyOneCabs x, int times, int code, long got) {
    due(call, got, LONG_REFUSAL - code);
    due(call + ", refusals " + code + " so far", x.count(10 - code), times);
  }

  /** A fraction's two parts, asked for one by one. */
  static void fraction(String call, long above, long below, long wantAbove, long wantBelow) {
    due(call + " above", above, wantAbove);
    due(call + " below", below, wantBelow);
  }

  static void letters(SixtyOneCabs x, String text) {
    for (int i = 0; i < text.length(); i++) {
      x.letter(text.charAt(i));
    }
  }

  static int evening(SixtyOneCabs x, String text) {
    letters(x, text);
    return x.evening();
  }

  static SixtyOneCabs behind(String text) {
    SixtyOneCabs x = new SixtyOneCabs();
    holds("evening " + text, evening(x, text) > 0);
    return x;
  }

  static void end(String test) {
    System.out.println(test + ": " + looked + " looked at, " + wrong + " not as due");
    if (wrong != 0) {
      System.exit(1);
    }
  }
}
