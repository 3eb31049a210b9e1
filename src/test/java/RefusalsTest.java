import java.util.stream.Stream;

/**
 * Each refusal of each promise: the last number that is allowed and the first beyond it, which refusal
 * comes first where several fit, and that nothing but how many there were changes with it.
 */
public final class RefusalsTest {
  /** Sheets 5 12 7 and 3 16; lookers f3, h7, m2 with bets 5, 4, 0; an image, a row and a letter. */
  private static final String[] FULL_OF_ALL = {
    "tell s005;s012;s103;lf3;lh7;p14;b020;b169;", "image = 3", "tell s007;s116;lm2;p05;b033;",
    "row 7 = 1", "row 13 = 2", "write w0;"
  };

  public static void main(String[] args) {
    letters();
    sheets();
    lookers();
    beliefs();
    chances();
    guesses();
    offs();
    sureAndLook();
    behindSheets();
    comingAgain();
    moreAndGone();
    gaps();
    two();
    rows();
    lotsAndImage();
    none();
    order();
    Check.end("RefusalsTest");
  }

  private static void of(String sentence, String... lines) {
    Script.holds(sentence, Stream.of(FULL_OF_ALL, lines).flatMap(Stream::of).toArray(String[]::new));
  }

  private static void letters() {
    of("Promise 2: 0 .. 255", "letter 0 = 4", "letter 255 = 5");
    of("Promise 2: -4", "letter -1 = no -4", "letter MIN = no -4");
    of("Promise 2: -6 255", "letter 256 = no -6", "letter MAX = no -6");
    of("Promise 2: -6 96", "92 x letter 59", "letter 59 = 96", "letter 59 = no -6", "letter 0 = no -6", "count 7 = 96");
    of("Promise 2: -4 ahead of -6", "93 x letter 59", "letter -1 = no -4", "letter 256 = no -6");
  }

  private static void sheets() {
    of("Promise 4: -1", "sees -1 1 = no -1", "sees 2 1 = no -1", "sees MIN 1 = no -1", "sees MAX 1 = no -1");
    of("Promise 4: -4 below 1", "sees 0 0 = no -4", "sees 1 -1 = no -4", "sees 0 MIN = no -4", "sees 0 1 = 4");
    of("Promise 4: -6 16", "sees 0 17 = no -6", "sees 1 MAX = no -6", "sees 0 16 = 4");
    of("Promise 4: -6 6 there are", "sees 0 1 = 4", "sees 0 2 = 5", "sees 0 4 = 6", "sees 0 9 = no -6", "sees 1 9 = 3");
    of("Promise 4: -3 it is on it", "sees 0 5 = no -3", "sees 0 7 = no -3", "sees 1 16 = no -3", "sees 1 5 = 3");
    of("Promise 4: -1 ahead of all", "sees 2 0 = no -1", "sees -1 17 = no -1");
    of("Promise 4: -4, -6 ahead of -3", "sees 0 1 = 4", "sees 0 2 = 5", "sees 0 4 = 6", "sees 0 0 = no -4", "sees 0 5 = no -6", "sees 0 17 = no -6");
    of("Promise 5: -1", "unsees -1 = no -1", "unsees 2 = no -1", "unsees MIN = no -1", "unsees MAX = no -1");
    of("Promise 5: -3 it is empty", "3 x unsees 0", "unsees 0 = no -3", "unsees 1 = 16", "unsees 1 = 3", "unsees 1 = no -3");
    of("Promise 6: -1", "sheet -1 0 = no -1", "sheet 2 0 = no -1", "sheet MAX 0 = no -1", "sheet MIN 0 = no -1");
    of("Promise 6: -4", "sheet 0 -1 = no -4", "sheet 0 MIN = no -4", "sheet 0 0 = 5", "sheet 0 3 = -9", "sheet 0 MAX = -9");
    of("Promise 6: -1 ahead of -4", "sheet 2 -1 = no -1", "sheet -1 -1 = no -1");
    of("Promise 7: -1", "of -1 0 = no -1", "of 2 0 = no -1", "of MAX 4 = no -1", "of MIN 4 = no -1");
    of("Promise 7: -2", "of 0 -1 = no -2", "of 1 5 = no -2", "of 0 MAX = no -2", "of 0 MIN = no -2", "of 0 0 = 3", "of 0 4 = 2");
    of("Promise 7: -1 ahead of -2", "of 2 5 = no -1", "of -1 -1 = no -1");
  }

  private static void lookers() {
    of("Promise 8: -1", "looker -1 0 = no -1", "looker 3 0 = no -1", "looker MAX 0 = no -1", "looker MIN 0 = no -1");
    of("Promise 8: -2", "looker 0 -1 = no -2", "looker 0 3 = no -2", "looker 0 MAX = no -2", "looker 2 0 = 1", "looker 0 2 = 5");
    of("Promise 8: -1 ahead of -2", "looker 3 3 = no -1", "looker -1 -1 = no -1");
    of("Promise 11: -1", "turn -1 0 0 = no -1", "turn 3 0 0 = no -1", "turn MAX 0 0 = no -1", "turn MIN 0 0 = no -1");
    of("Promise 11: -2", "turn 0 -1 0 = no -2", "turn 0 6 0 = no -2", "turn 0 MAX 0 = no -2", "turn 0 MIN 0 = no -2");
    of("Promise 11: KIND 0 .. 5", "turn 0 0 0 = 43", "turn 0 5 9 = 0", "turn 0 4 3 = 59");
    of("Promise 11: -4", "turn 0 0 -1 = no -4", "turn 0 5 MIN = no -4", "turn 2 1 0 = 12");
    of("Promise 11: -6 9", "turn 0 0 10 = no -6", "turn 0 5 MAX = no -6", "turn 2 1 9 = 12");
    of("Promise 11: -1 ahead of all", "turn 3 6 0 = no -1", "turn 3 0 -1 = no -1", "turn -1 0 10 = no -1");
    of("Promise 11: -2 ahead of -4, -6", "turn 0 6 -1 = no -2", "turn 0 -1 10 = no -2");
    of("Promise 12: -1", "paid -1 5 = no -1", "paid 2 5 = no -1", "paid MAX 5 = no -1", "paid MIN 5 = no -1");
    of("Promise 12: -4 below 1", "paid 0 0 = no -4", "paid 1 MIN = no -4", "paid 0 1 = 2");
    of("Promise 12: -6 16", "paid 0 17 = no -6", "paid 1 MAX = no -6", "paid 0 16 = 0");
    of("Promise 12: -1 ahead of all", "paid 2 0 = no -1", "paid -1 17 = no -1");
    of("Promise 12: -4, -6 of an empty sheet", "2 x unsees 1", "paid 1 0 = no -4", "paid 1 17 = no -6", "paid 1 1 = -9");
  }

  private static void beliefs() {
    of("Promise 9: -4", "believes 0 1 = no -4", "believes MIN 1 = no -4", "believes 1 -1 = no -4", "believes 16 MIN = no -4");
    of("Promise 9: -6", "believes 17 1 = no -6", "believes MAX 1 = no -6", "believes 1 10 = no -6", "believes 16 MAX = no -6");
    of("Promise 9: 1 .. 16, 0 .. 9", "believes 1 0 = 1", "believes 16 0 = 9", "believes 1 9 = 0", "believes 16 9 = 0");
    of("Promise 9: -4 ahead of -6", "believes 0 10 = no -4", "believes 17 -1 = no -4");
    of("Promise 10: -4 below 1", "belief 0 = no -4", "belief MIN = no -4", "belief 1 = 1");
    of("Promise 10: -6 16", "belief 17 = no -6", "belief MAX = no -6", "belief 16 = 9");
    of("Promise 24: -4", "before 0 0 = no -4", "before MIN 1 = no -4", "before 1 = 1/25");
    of("Promise 24: -6", "before 17 0 = no -6", "before MAX 1 = no -6", "before 16 = 9/25");
    of("Promise 24: -2", "before 5 -1 = no -2", "before 5 2 = no -2", "before 5 MAX = no -2", "before 5 MIN = no -2");
    of("Promise 24: -4, -6 ahead of -2", "before 0 2 = no -4", "before 17 -1 = no -6");
  }

  private static void chances() {
    for (String call : new String[] {"chance", "most"}) {
      String promise = call.equals("chance") ? "Promise 13" : "Promise 14";
      of(promise + ": -4", call + " 0 1 1 0 = no -4", call + " 5 0 1 0 = no -4", call + " MIN 1 1 1 = no -4", call + " 5 MIN 1 1 = no -4");
      of(promise + ": -6 16", call + " 17 1 1 0 = no -6", call + " MAX 1 1 1 = no -6", call + " 16 1 16 1 = " + (call.equals("chance") ? 16 : 1));
      of(promise + ": -6 6", call + " 16 7 16 0 = no -6", call + " 16 MAX 16 1 = no -6", call + " 16 6 6 1 = 8008");
      of(promise + ": -6 k above n", call + " 1 2 1 0 = no -6", call + " 5 6 5 1 = no -6", call + " 5 5 5 = 1/1", call + " 6 6 6 = 1/1");
      of(promise + ": -2", call + " 5 2 3 -1 = no -2", call + " 5 2 3 2 = no -2", call + " 5 2 3 MAX = no -2", call + " 5 2 3 MIN = no -2");
      of(promise + ": -4 ahead of -6", call + " 0 7 1 0 = no -4", call + " 17 0 1 0 = no -4", call + " 0 1 1 0 = no -4");
      of(promise + ": -4, -6 ahead of -2", call + " 0 1 1 2 = no -4", call + " 17 1 1 2 = no -6", call + " 2 3 1 -1 = no -6");
      of(promise + ": any v", call + " 5 2 MIN = 0/1", call + " 5 2 0 = 0/1", call + " 5 2 MAX = " + (call.equals("chance") ? "0/1" : "1/1"));
    }
  }

  private static void guesses() {
    of("Promise 15: -1 of a looker", "guess -1 0 0 = no -1", "guess 3 0 0 = no -1", "guess MAX 0 0 = no -1", "guess MIN 0 0 = no -1");
    of("Promise 15: -1 of a colour", "guess 0 -1 0 = no -1", "guess 0 2 0 = no -1", "guess 0 MAX 0 = no -1", "guess 0 MIN 0 = no -1");
    of("Promise 15: -2", "guess 0 0 -1 = no -2", "guess 0 0 2 = no -2", "guess 2 1 MAX = no -2", "guess 2 1 = 16/1");
    of("Promise 15: -1 ahead of -2", "guess 3 0 2 = no -1", "guess 0 2 -1 = no -1", "guess 3 2 2 = no -1");
    of("Promise 16: -1", "nearest -1 5 = no -1", "nearest 2 5 = no -1", "nearest MAX 5 = no -1", "nearest MIN 5 = no -1");
    of("Promise 16: -4 below 1", "nearest 0 0 = no -4", "nearest 1 MIN = no -4", "nearest 0 1 = 2");
    of("Promise 16: -6 16", "nearest 0 17 = no -6", "nearest 1 MAX = no -6", "nearest 0 16 = 0");
    of("Promise 16: -1 ahead of all", "nearest 2 0 = no -1", "nearest -1 17 = no -1");
    of("Promise 16: of an empty sheet", "2 x unsees 1", "nearest 1 0 = no -4", "nearest 1 17 = no -6", "nearest 1 1 = -9");
    of("Promise 17: -1", "ordered -1 0 = no -1", "ordered 2 0 = no -1", "ordered MAX 0 = no -1", "ordered MIN 0 = no -1");
    of("Promise 17: -4", "ordered 0 -1 = no -4", "ordered 1 MIN = no -4", "ordered 0 0 = 2", "ordered 0 2 = 1", "ordered 0 3 = -9");
    of("Promise 17: -1 ahead of -4", "ordered 2 -1 = no -1", "ordered -1 -1 = no -1");
    of("Promise 17: of an empty sheet", "2 x unsees 1", "ordered 1 -1 = no -4", "ordered 1 0 = -9");
  }

  private static void offs() {
    for (String call : new String[] {"off", "mean"}) {
      String promise = call.equals("off") ? "Promise 18" : "Promise 19";
      of(promise + ": -1", call + " -1 5 2 0 = no -1", call + " 3 5 2 0 = no -1", call + " MAX 5 2 1 = no -1", call + " MIN 5 2 1 = no -1");
      of(promise + ": -4", call + " 0 0 1 0 = no -4", call + " 0 5 0 0 = no -4", call + " 0 MIN 1 1 = no -4", call + " 0 5 MIN 1 = no -4");
      of(promise + ": -6 10", call + " 2 11 1 0 = no -6", call + " 2 MAX 1 0 = no -6", call + " 2 10 1 = " + (call.equals("off") ? "57/2" : "11/2"));
      of(promise + ": -6 4", call + " 2 10 5 0 = no -6", call + " 2 10 MAX 0 = no -6", call + " 2 4 4 = " + (call.equals("off") ? "0/1" : "4/1"));
      of(promise + ": -6 k above n", call + " 2 1 2 0 = no -6", call + " 2 3 4 0 = no -6", call + " 2 3 3 = " + (call.equals("off") ? "0/1" : "3/1"));
      of(promise + ": -2", call + " 0 5 2 -1 = no -2", call + " 0 5 2 2 = no -2", call + " 0 5 2 MAX = no -2", call + " 0 5 2 MIN = no -2");
      of(promise + ": -1 ahead of all", call + " 3 0 1 0 = no -1", call + " 3 11 1 0 = no -1", call + " 3 5 2 2 = no -1");
      of(promise + ": -4 ahead of -6, -2", call + " 0 0 5 0 = no -4", call + " 0 11 0 0 = no -4", call + " 0 0 1 2 = no -4");
      of(promise + ": -6 ahead of -2", call + " 0 11 1 2 = no -6", call + " 0 10 5 -1 = no -6", call + " 0 1 2 2 = no -6");
    }
    of("Promise 20: -1", "fair -1 1 = no -1", "fair 3 1 = no -1", "fair MAX 1 = no -1", "fair MIN 1 = no -1");
    of("Promise 20: -4 below 1", "fair 0 0 = no -4", "fair 1 MIN = no -4", "fair 1 1 = 1");
    of("Promise 20: -6 4", "fair 0 5 = no -6", "fair 1 MAX = no -6", "fair 1 4 = 1", "fair 2 4 = 0");
    of("Promise 20: -1 ahead of all", "fair 3 0 = no -1", "fair -1 5 = no -1");
    of("Promise 21: -4", "best 0 1 = no -4", "best 5 0 = no -4", "best MIN 1 = no -4", "best 5 MIN = no -4", "best 1 1 = 1");
    of("Promise 21: -6", "best 11 1 = no -6", "best 10 5 = no -6", "best 3 4 = no -6", "best 1 2 = no -6", "best MAX 1 = no -6");
    of("Promise 21: 10, 4, k is n", "best 10 4 = 2", "best 4 4 = 1", "best 10 1 = 0");
    of("Promise 21: -4 ahead of -6", "best 0 5 = no -4", "best 11 0 = no -4", "best 0 1 = no -4");
  }

  private static void sureAndLook() {
    of("Promise 22: -1", "sure -1 1 2 = no -1", "sure 2 1 2 = no -1", "sure MAX 1 2 = no -1", "sure MIN 1 2 = no -1");
    of("Promise 22: -4", "sure 0 0 5 = no -4", "sure 0 1 0 = no -4", "sure 0 MIN 5 = no -4", "sure 0 1 MIN = no -4");
    of("Promise 22: -6 b above 20", "sure 0 1 21 = no -6", "sure 0 1 MAX = no -6", "sure 0 1 20 = 16", "sure 0 20 20 = 12");
    of("Promise 22: -6 a above b", "sure 0 2 1 = no -6", "sure 0 20 19 = no -6", "sure 0 MAX 20 = no -6", "sure 0 1 1 = 12");
    of("Promise 22: -1 ahead of all", "sure 2 0 1 = no -1", "sure 2 1 21 = no -1", "sure -1 2 1 = no -1");
    of("Promise 22: -4 ahead of -6", "sure 0 0 21 = no -4", "sure 0 21 0 = no -4", "sure 0 1 -1 = no -4");
    of("Promise 22: of an empty sheet", "2 x unsees 1", "sure 1 0 1 = no -4", "sure 1 2 1 = no -6", "sure 1 1 21 = no -6", "sure 1 1 1 = 16");
    of("Promise 23: -4", "look 0 1 = no -4", "look 1 0 = no -4", "look MIN 1 = no -4", "look 1 MIN = no -4", "look 1 1 = 1");
    of("Promise 23: -6 16 either", "look 17 1 = no -6", "look 1 17 = no -6", "look MAX 1 = no -6", "look 1 MAX = no -6", "look 16 16 = -9");
    of("Promise 23: -4 ahead of -6", "look 0 17 = no -4", "look 17 0 = no -4");
  }

  private static void behindSheets() {
    of("Promise 25: -1", "after -1 5 0 = no -1", "after 2 5 0 = no -1", "after MAX 5 1 = no -1", "after MIN 5 1 = no -1");
    of("Promise 25: -4 below 1", "after 0 0 0 = no -4", "after 1 MIN 1 = no -4", "after 0 1 = 0/1");
    of("Promise 25: -6 16", "after 0 17 0 = no -6", "after 1 MAX 1 = no -6", "after 1 16 = 1/1");
    of("Promise 25: -2", "after 0 5 -1 = no -2", "after 0 5 2 = no -2", "after 1 5 MAX = no -2", "after 1 5 MIN = no -2");
    of("Promise 25: -1 ahead of all", "after 2 0 0 = no -1", "after 2 17 0 = no -1", "after -1 5 2 = no -1");
    of("Promise 25: -4, -6 ahead of -2", "after 0 0 2 = no -4", "after 0 17 2 = no -6");
    of("Promise 26: -1", "which -1 = no -1", "which 2 = no -1", "which MAX = no -1", "which MIN = no -1", "which 1 = 16");
    for (String call : new String[] {"about", "next"}) {
      String promise = call.equals("about") ? "Promise 27" : "Promise 28";
      of(promise + ": -1", call + " -1 0 = no -1", call + " 2 0 = no -1", call + " MAX 1 = no -1", call + " MIN 1 = no -1");
      of(promise + ": -2", call + " 0 -1 = no -2", call + " 0 2 = no -2", call + " 1 MAX = no -2", call + " 1 MIN = no -2", call + " 1 1 = 1");
      of(promise + ": -1 ahead of -2", call + " 2 2 = no -1", call + " -1 -1 = no -1");
    }
  }

  private static void comingAgain() {
    of("Promise 29: -4 n", "again 0 1 1 0 = no -4", "again MIN 1 1 1 = no -4", "again 1 1 1 = 1/1");
    of("Promise 29: -4 k", "again 5 0 1 0 = no -4", "again 5 MIN 1 1 = no -4");
    of("Promise 29: -4 u", "again 5 1 0 0 = no -4", "again 5 1 MIN 1 = no -4");
    of("Promise 29: -6 16", "again 17 1 1 0 = no -6", "again MAX 1 1 1 = no -6", "again 16 2 1 = 1/16");
    of("Promise 29: -6 6", "again 5 7 1 0 = no -6", "again 5 MAX 1 1 = no -6", "again 2 6 1 = 1/32");
    of("Promise 29: -6 u above 6", "again 5 6 7 0 = no -6", "again 5 1 MAX 1 = no -6", "again 5 1 6 = 0/1");
    of("Promise 29: -2", "again 5 3 2 -1 = no -2", "again 5 3 2 2 = no -2", "again 5 3 4 MAX = no -2", "again 5 3 2 MIN = no -2");
    of("Promise 29: -4 ahead of -6", "again 0 7 1 0 = no -4", "again 17 0 1 0 = no -4", "again 17 1 0 0 = no -4", "again 0 1 7 0 = no -4");
    of("Promise 29: -4, -6 ahead of -2", "again 0 1 1 2 = no -4", "again 17 1 1 2 = no -6", "again 5 1 7 -1 = no -6");
    of("Promise 30: -4", "likeliest 0 1 = no -4", "likeliest 1 0 = no -4", "likeliest MIN 1 = no -4", "likeliest 1 MIN = no -4");
    of("Promise 30: -6", "likeliest 7 1 = no -6", "likeliest 6 7 = no -6", "likeliest MAX 1 = no -6", "likeliest 6 MAX = no -6");
    of("Promise 30: -3 u is above k", "likeliest 1 2 = no -3", "likeliest 5 6 = no -3", "likeliest 1 6 = no -3", "likeliest 6 6 = -9");
    of("Promise 30: -4 ahead of all", "likeliest 0 7 = no -4", "likeliest 7 0 = no -4", "likeliest 0 1 = no -4");
    of("Promise 30: -6 ahead of -3", "likeliest 1 7 = no -6", "likeliest 6 7 = no -6");
  }

  private static void moreAndGone() {
    of("Promise 31: -2", "more -1 0 = no -2", "more 2 0 = no -2", "more MAX 0 = no -2", "more MIN 0 = no -2");
    of("Promise 31: -2 of part", "more 0 -1 = no -2", "more 1 2 = no -2", "more 0 MAX = no -2", "more 1 MIN = no -2");
    of("Promise 32: -4 n below 1", "gone 0 0 2 0 = no -4", "gone MIN 0 2 1 = no -4", "gone 1 1 2 = 1/2");
    of("Promise 32: -4 j", "gone 5 -1 2 0 = no -4", "gone 5 MIN 2 1 = no -4", "gone 5 0 2 = 1/1");
    of("Promise 32: -4 t below 2", "gone 5 0 1 0 = no -4", "gone 5 0 0 0 = no -4", "gone 5 0 MIN 1 = no -4");
    of("Promise 32: -6 12", "gone 13 0 2 0 = no -6", "gone MAX 0 2 1 = no -6", "gone 12 12 2 = 1/4096");
    of("Promise 32: -6 j above n", "gone 5 6 2 0 = no -6", "gone 5 MAX 2 1 = no -6", "gone 5 5 2 = 1/32");
    of("Promise 32: -6 20", "gone 5 0 21 0 = no -6", "gone 5 0 MAX 1 = no -6", "gone 2 2 20 = 361/400");
    of("Promise 32: -2", "gone 5 5 2 -1 = no -2", "gone 5 5 2 2 = no -2", "gone 5 5 2 MAX = no -2", "gone 5 5 2 MIN = no -2");
    of("Promise 32: -4 ahead of -6", "gone 0 1 2 0 = no -4", "gone 13 -1 2 0 = no -4", "gone 13 0 1 0 = no -4", "gone 0 0 21 0 = no -4");
    of("Promise 32: -4, -6 ahead of -2", "gone 0 0 2 2 = no -4", "gone 13 0 2 2 = no -6", "gone 5 6 2 -1 = no -6");
  }

  private static void gaps() {
    of("Promise 33: -1", "gap -1 0 = no -1", "gap 2 0 = no -1", "gap MAX 1 = no -1", "gap MIN 1 = no -1");
    of("Promise 33: -2", "gap 0 -1 = no -2", "gap 0 2 = no -2", "gap 1 MAX = no -2", "gap 1 MIN = no -2", "gap 1 0 = 12", "gap 1 1 = 16");
    of("Promise 33: -1 ahead of -2", "gap 2 2 = no -1", "gap -1 -1 = no -1");
    of("Promise 33: -2 of an empty sheet", "2 x unsees 1", "gap 1 2 = no -2", "gap 1 0 = -9", "gap 1 1 = -9");
    of("Promise 34: -1", "missing 2 = no -1", "missing -2 = no -1", "missing MAX = no -1", "missing MIN = no -1", "missing -1 = 0");
  }

  private static void two() {
    of("Promise 35: -1 the first", "two -1 0 0 5 = no -1", "two 3 0 0 5 = no -1", "two MAX 0 0 5 = no -1", "two MIN 0 0 5 = no -1");
    of("Promise 35: -1 the other", "two 0 -1 0 5 = no -1", "two 0 3 0 5 = no -1", "two 0 MAX 0 5 = no -1", "two 0 MIN 0 5 = no -1");
    of("Promise 35: -1 one twice", "two 0 0 0 5 = no -1", "two 2 2 1 5 = no -1", "two 3 3 0 5 = no -1", "two 0 2 0 5 = 0");
    of("Promise 35: -1 the colour", "two 0 1 -1 5 = no -1", "two 0 1 2 5 = no -1", "two 0 1 MAX 5 = no -1", "two 0 1 MIN 5 = no -1");
    of("Promise 35: -4 below 1", "two 0 1 0 0 = no -4", "two 0 1 1 MIN = no -4", "two 0 1 0 1 = 0");
    of("Promise 35: -6 16", "two 0 1 0 17 = no -6", "two 0 1 1 MAX = no -6", "two 0 2 0 16 = 0");
    of("Promise 35: -1 ahead of all", "two 0 0 0 0 = no -1", "two 3 0 0 17 = no -1", "two 0 1 2 0 = no -1", "two 0 1 -1 17 = no -1");
    of("Promise 35: of an empty sheet", "2 x unsees 1", "two 0 1 1 0 = no -4", "two 0 1 1 17 = no -6", "two 1 1 1 5 = no -1", "two 0 1 1 5 = -9");
  }

  private static void rows() {
    of("Promise 36: -1 of a looker", "whatIs -1 0 0 = no -1", "whatIs 3 0 0 = no -1", "whatIs MAX 0 1 = no -1", "whatIs MIN 0 1 = no -1");
    of("Promise 36: -1 of a colour", "whatIs 0 -1 0 = no -1", "whatIs 0 2 0 = no -1", "whatIs 0 MAX 1 = no -1", "whatIs 0 MIN 1 = no -1");
    of("Promise 36: -2", "whatIs 0 0 -1 = no -2", "whatIs 0 0 2 = no -2", "whatIs 0 1 MAX = no -2", "whatIs 0 1 MIN = no -2");
    of("Promise 36: -3", "row 12 = 3", "whatIs 0 1 0 = no -3", "whatIs 0 1 1 = no -3", "whatIs 0 0 0 = 0", "row 1 = 4", "whatIs 0 0 0 = no -3");
    of("Promise 36: -1 ahead of all", "row 12 = 3", "whatIs 3 1 2 = no -1", "whatIs 0 2 2 = no -1", "whatIs 3 1 0 = no -1");
    of("Promise 36: -2 ahead of -3", "row 12 = 3", "whatIs 0 1 2 = no -2", "whatIs 0 1 -1 = no -2");
    of("Promise 37: -4", "row -1 = no -4", "row MIN = no -4", "row 0 = 3");
    of("Promise 37: -6 99", "row 100 = no -6", "row MAX = no -6", "row 99 = 3");
    of("Promise 37: -6 16", "13 x row 5", "row 5 = 16", "row 5 = no -6", "row 0 = no -6", "count 6 = 16");
    of("Promise 37: -4 ahead of -6", "14 x row 5", "row -1 = no -4", "row 100 = no -6");
    of("Promise 38: -4 below 1", "judge 0 = no -4", "judge MIN = no -4", "count 6 = 2", "judge 1 = 0");
    of("Promise 38: -6 16", "judge 17 = no -6", "judge MAX = no -6", "count 6 = 2", "judge 16 = -9");
  }

  private static void lotsAndImage() {
    of("Promise 40: -4", "lots 0 5 0 = no -4", "lots MIN 5 1 = no -4", "lots 1 3 0 = 16");
    of("Promise 40: -6 20", "lots 21 5 0 = no -6", "lots MAX 5 1 = no -6", "lots 20 0 0 = 275");
    of("Promise 40: -2", "lots 5 5 -1 = no -2", "lots 5 5 2 = no -2", "lots 5 5 MAX = no -2", "lots 5 5 MIN = no -2");
    of("Promise 40: -4, -6 ahead of -2", "lots 0 5 2 = no -4", "lots 21 5 -1 = no -6");
    Script.holds("Promise 42: -3 there is none", "tell s005;", "on = no -3", "sheet 0 0 = 5", "image = 1", "on = 1", "on = 1");
  }

  private static void none() {
    Script.holds("NOBODY: no looker so far", "looker 0 0 = no -1", "turn 0 0 0 = no -1", "guess 0 0 0 = no -1",
        "off 0 5 2 0 = no -1", "mean 0 5 2 0 = no -1", "fair 0 2 = no -1", "two 0 1 0 5 = no -1", "whatIs 0 0 0 = no -1");
    Script.holds("NOBODY: the sixth is there, no seventh", "tell lp0;lp0;lp0;lp0;lp0;lm9;s005;", "looker 5 1 = 9",
        "looker 6 1 = no -1", "guess 5 0 = 5/1", "guess 6 0 0 = no -1", "two 4 5 0 5 = 0", "two 5 6 0 5 = no -1");
    of("NOBODY: a looker that the image does not hold", "looker 2 0 = 1", "on = 3", "looker 2 0 = no -1", "count 0 = 2");
    of("Promises 3, 39, 41, 43 refuse nothing", "evening = 1", "evening = -1000", "clear = 2", "clear = 0", "image = 2",
        "count MIN = -9", "count MAX = -9", "count -1 = -9");
  }

  /** Each of its own sort counts for itself, as often as it was answered, whatever its call answers. */
  private static void order() {
    SixtyOneCabs x = new SixtyOneCabs();
    for (int i = 0; i < 2; i++) {
      x.which(2);
      x.about(2, 0);
    }
    x.more(2, 0);
    x.on();
    x.on();
    for (int i = 0; i < 5; i++) {
      x.letter(-1);
    }
    x.chance(17, 1, 1, 0);
    int[] want = {4, 1, 2, 5, 0, 1};
    for (int code = 1; code <= 6; code++) {
      Check.due("refusals -" + code, x.count(10 + code), want[code - 1]);
    }
  }
}
