/**
 * Part I of the document, and the promises of what it names: each sentence that names a bound, what is
 * empty or what is full has lines of its own.
 */
public final class EdgesOfTellingTest {
  private static final String NOTHING_BELIEVED =
      "tell b010;b020;b030;b040;b050;b060;b070;b080;b090;b100;b110;b120;b130;b140;b150;b160;";

  public static void main(String[] args) {
    aNewObject();
    ranks();
    fullSheets();
    emptySheets();
    beliefs();
    lookers();
    bets();
    letters();
    statements();
    signs();
    lacking();
    outOfRange();
    behindAllAhead();
    allOrNothing();
    kinds();
    Check.end("EdgesOfTellingTest");
  }

  private static void of(String sentence, String... lines) {
    Script.holds(sentence, lines);
  }

  private static void aNewObject() {
    of("Nothing SEEN", "count 1 = 0", "count 2 = 0", "sheet 0 0 = -9", "sheet 1 0 = -9", "of 0 0 = 0", "image = 0");
    of("each BELIEF 1", "count 3 = 16", "belief 1 = 1", "belief 2 = 1", "belief 15 = 1", "belief 16 = 1", "before 16 = 1/16");
    of("no LOOKERS", "count 0 = 0", "count 4 = 0", "looker 0 0 = no -1", "best 1 1 = -9");
    of("no ROW, no letters, no image, no REFUSALS", "count 6 = 0", "clear = 0", "judge 16 = -9", "count 7 = 0",
        "count 11 = 0", "count 12 = 0", "count 13 = 0", "count 14 = 0", "count 15 = 0", "count 16 = 0", "on = no -3");
  }

  private static void ranks() {
    of("numbers from 1 on", "sees 0 1 = 1", "sees 0 0 = no -4", "sheet 0 0 = 1", "sheet 0 1 = -9");
    of("1 .. 16 CABS", "sees 0 16 = 1", "sees 0 17 = no -6", "of 0 1 = 16");
    of("none twice", "sees 0 9 = 1", "sees 0 9 = no -3", "sees 0 8 = 2", "sees 0 9 = no -3", "of 0 3 = 17");
    of("COLOURS 0, 1", "sees 0 3 = 1", "sees 1 3 = 1", "sees 2 3 = no -1", "sees -1 3 = no -1", "count 1 = 1", "count 2 = 1");
    of("each a RANK for itself", "sees 0 4 = 1", "sees 1 4 = 1", "unsees 0 = 4", "sheet 1 0 = 4", "sheet 0 0 = -9");
  }

  private static void fullSheets() {
    of("6 at most", "sees 1 16 = 1", "sees 1 15 = 2", "sees 1 14 = 3", "sees 1 13 = 4", "sees 1 12 = 5", "sees 1 11 = 6",
        "sees 1 10 = no -6", "sheet 1 5 = 11", "sheet 1 6 = -9", "count 2 = 6", "sees 0 10 = 1");
    of("in turn", "tell s009;s001;s016;s002;s015;s003;", "sheet 0 0 = 9", "sheet 0 1 = 1", "sheet 0 2 = 16",
        "sheet 0 3 = 2", "sheet 0 4 = 15", "sheet 0 5 = 3");
    of("one less than full: room for one", "tell s009;s001;s016;s002;s015;s003;", "unsees 0 = 3", "sees 0 3 = 6", "sees 0 4 = no -6");
    of("k, g, l, t of a full SHEET", "tell s009;s001;s016;s002;s015;s003;", "of 0 0 = 6", "of 0 1 = 16", "of 0 2 = 1", "of 0 3 = 46");
    of("the least and the greatest t", "tell s001;s002;s003;s004;s005;s006;s116;s115;s114;s113;s112;s111;",
        "of 0 3 = 21", "of 1 3 = 81", "of 0 2 = 1", "of 1 2 = 11", "image = 12");
    of("the last of its SHEET is no more", "tell s001;s002;s003;s004;s005;s006;", "unsees 0 = 6", "unsees 0 = 5", "unsees 0 = 4",
        "unsees 0 = 3", "unsees 0 = 2", "unsees 0 = 1", "unsees 0 = no -3", "count 1 = 0");
    of("RISING of a full SHEET", "tell s001;s002;s003;s004;s005;s006;s116;s115;s114;s113;s112;s111;", "of 0 4 = 6", "of 1 4 = 1");
  }

  private static void emptySheets() {
    of("k 0, g 0, l 0 of none", "of 0 0 = 0", "of 0 1 = 0", "of 0 2 = 0", "of 0 3 = 0", "of 0 4 = 0");
    of("0 of none, behind some", "tell s107;w1;", "of 1 0 = 0", "of 1 1 = 0", "of 1 2 = 0", "of 1 3 = 0", "of 1 4 = 0", "sheet 1 0 = -9");
    of("0 of none of one, not of the other", "tell s107;", "of 0 1 = 0", "of 0 2 = 0", "of 1 1 = 7", "of 1 2 = 7");
  }

  private static void beliefs() {
    of("1 .. 16", "believes 1 9 = 1", "believes 16 0 = 1", "belief 1 = 9", "belief 16 = 0", "belief 0 = no -4", "belief 17 = no -6");
    of("0 .. 9", "believes 7 0 = 1", "believes 7 9 = 0", "believes 7 10 = no -6", "believes 7 -1 = no -4", "belief 7 = 9");
    of("1 at first", "believes 7 5 = 1", "believes 7 6 = 5");
    of("of both COLOURS", "believes 16 9 = 1", "after 0 16 = 3/8", "after 1 16 = 3/8");
    of("all BELIEF, the least", NOTHING_BELIEVED, "count 3 = 0");
    of("all BELIEF, the greatest", "tell b019;b029;b039;b049;b059;b069;b079;b089;b099;b109;b119;b129;b139;b149;b159;b169;", "count 3 = 144");
  }

  private static void lookers() {
    of("LOOKERS 0 .. as they come", "tell lm3;lf4;", "looker 0 0 = 1", "looker 1 0 = 4", "tell lh5;", "looker 2 0 = 5", "looker 0 1 = 3");
    of("6 at most", "tell lp0;lp1;lp2;lp3;lp4;lp5;", "count 0 = 6", "tell lp6; = -2000", "count 0 = 6", "looker 5 1 = 5");
    of("6 at most in one EVENING", "tell lp0;lp1;lp2;lp3;lp4;lp5;lp6; = -2024", "count 0 = 0", "tell lp9;", "count 0 = 1");
    of("FIGURE 0 .. 9", "tell lf0;lf9;", "looker 0 1 = 0", "looker 1 1 = 9", "turn 0 4 9 = 40", "turn 0 4 10 = no -6", "turn 0 4 -1 = no -4");
    of("BETS 0 at first", "tell lf9;", "looker 0 2 = 0", "count 4 = 0");
    of("BETS go with the LOOKER, not with his KIND", "tell lf9;p07;", "turn 0 0 0 = 49", "looker 0 2 = 7");
  }

  private static void bets() {
    String upTo98 = "tell lp0;lm0;p09;p09;p09;p09;p09;p09;p09;p09;p09;p09;p08;";
    of("BETS 99 at most, by letters", upTo98, "looker 0 2 = 98", "tell p01;", "looker 0 2 = 99", "tell p01;", "looker 0 2 = 99");
    of("BETS 99 at most, far beyond by letters", upTo98, "tell p09;", "looker 0 2 = 99", "tell p09;p19;", "looker 0 2 = 99", "looker 1 2 = 9");
    of("BETS 99 at most, PAID", upTo98, "sees 0 5 = 1", "paid 0 9 = 0", "looker 0 2 = 99", "paid 0 9 = 0", "looker 0 2 = 99");
    of("none more", "tell lp0;p00;", "looker 0 2 = 0");
    of("all BETS, the greatest", "tell s005;lp0;lp0;lp0;lp0;lp0;lp0;", "tell p09;p09;p09;p09;p09;p09;p09;p09;p09;p09;p09;",
        "tell p19;p19;p19;p19;p19;p19;p19;p19;p19;p19;p19;", "count 4 = 198", "paid 0 5 = 0", "count 4 = 198");
  }

  private static void letters() {
    of("a letter 0 .. 255", "letter 0 = 1", "letter 255 = 2", "letter 256 = no -6", "letter -1 = no -4", "count 7 = 2");
    of("96 at most", "95 x letter 119", "letter 48 = 96", "letter 59 = no -6", "count 7 = 96");
    of("96 letters become an EVENING", "tell " + "w0;".repeat(32) + " = 32", "count 7 = 0", "letter 119 = 1");
    of("96 letters of other statements", "tell " + "s005;w0;".repeat(12) + " = 24", "count 1 = 0");
    of("they are no more", "tell s005;", "count 7 = 0", "evening = -1000", "count 1 = 1");
    of("with a FAULT neither", "tell s005 = -1004", "count 7 = 0", "tell ; = -1000", "tell s005;s005; = -2005", "count 7 = 0", "evening = -1000");
    of("nothing is counted", "tell s005 = -1004", "tell s200; = -2000", "count 11 = 0", "count 13 = 0", "count 14 = 0", "count 16 = 0");
  }

  private static void statements() {
    of("s: the least and the greatest", "tell s001;s116;", "sheet 0 0 = 1", "sheet 1 0 = 16");
    of("b: the least and the greatest", "tell b010;b169;", "belief 1 = 0", "belief 16 = 9");
    of("l: each KIND, FIGURE 0 and 9", "tell lp0;lm9;lt0;le9;lf0;lh9;", "looker 0 0 = 0", "looker 1 0 = 1", "looker 2 0 = 2",
        "looker 3 0 = 3", "looker 4 0 = 4", "looker 5 0 = 5", "looker 5 1 = 9", "looker 4 1 = 0");
    of("w: its SHEET is empty then, the other is not", "tell s001;s102;w0;", "count 1 = 0", "count 2 = 1", "tell w1;", "count 2 = 0");
    of("w: an empty SHEET, too", "tell w0;w1;", "count 1 = 0", "count 2 = 0");
    of("w: a full SHEET", "tell s001;s002;s003;s004;s005;s006;w0;s001;", "count 1 = 1", "sheet 0 1 = -9");
    of("u: the last number is no more", "tell s001;s002;u0;s103;u1;", "count 1 = 1", "sheet 0 0 = 1", "count 2 = 0");
    of("p: of the first and of the last LOOKER", "tell lp0;lp0;lp0;lp0;lp0;lp0;p03;p59;", "looker 0 2 = 3", "looker 5 2 = 9", "count 4 = 12");
    of("how many STATEMENTS", "tell w0; = 1", "tell s001;b010;lp0;w0;s001;u0;p00; = 7");
  }

  private static void signs() {
    of("At least one STATEMENT", "evening = -1000", "tell ; = -1000");
    of("the place of the first letter: a STATEMENT's first", "tell x = -1000", "tell w0;x = -1003", "tell 0 = -1000", "tell S001; = -1000");
    of("s: each place", "tell sx = -1001", "tell s0x = -1002", "tell s00x = -1003", "tell s001x = -1004", "tell s0; = -1002", "tell s0011; = -1004");
    of("b: each place", "tell bx = -1001", "tell b0x = -1002", "tell b01x = -1003", "tell b011x = -1004", "tell b01; = -1003");
    of("l: each place", "tell lx = -1001", "tell lpx = -1002", "tell lp0x = -1003", "tell l00; = -1001", "tell lpp; = -1002", "tell lP0; = -1001");
    of("w: each place", "tell wx = -1001", "tell w0x = -1002", "tell w; = -1001", "tell w00; = -1002");
    of("u: each place", "tell ux = -1001", "tell u0x = -1002", "tell u; = -1001", "tell u00; = -1002");
    of("p: each place", "tell px = -1001", "tell p0x = -1002", "tell p00x = -1003", "tell p; = -1001", "tell p0; = -1002");
    of("a digit: the signs next to 0 and 9", "tell w/ = -1001", "tell w: = -1001", "tell w0; = 1", "tell w9; = -2000");
    of("signs 0 and 255", "letter 0 = 1", "evening = -1000", "letter 255 = 1", "evening = -1000", "tell lp0;", "tell l\u0000 = -1001", "tell l\u00ff = -1001");
    of("the first of two", "tell wx;x = -1001", "tell w0;wx;wy; = -1004");
    of("kind 1 ahead of kind 2, wherever", "tell s200;x = -1005", "tell u0;u0;p0 = -1008", "tell s001;s001;; = -1010");
  }

  private static void lacking() {
    of("the end, if something lacks: s", "tell s = -1001", "tell s0 = -1002", "tell s00 = -1003", "tell s001 = -1004");
    of("the end, if something lacks: b", "tell b = -1001", "tell b0 = -1002", "tell b01 = -1003", "tell b011 = -1004");
    of("the end, if something lacks: l", "tell l = -1001", "tell lp = -1002", "tell lp0 = -1003");
    of("the end, if something lacks: w, u, p", "tell w = -1001", "tell w0 = -1002", "tell u = -1001", "tell u0 = -1002",
        "tell p = -1001", "tell p0 = -1002", "tell p00 = -1003");
    of("the end behind whole STATEMENTS", "tell w0;s = -1004", "tell w0;w0;lp0 = -1009");
    of("that there are 96 letters at most doesn't matter", "tell " + "w0;".repeat(31) + "s00 = -1096",
        "tell " + "w0;".repeat(31) + "w0x = -1095", "tell " + "w0;".repeat(30) + "w0;lp0 = -1096");
    of("behind 96 letters nothing lacks", "tell " + "w0;".repeat(30) + "w0;w0; = 32", "tell " + "w0;".repeat(31) + "u0; = -2093");
  }

  private static void outOfRange() {
    of("a COLOUR out of range", "tell s201; = -2000", "tell s901; = -2000", "tell w2; = -2000", "tell w9; = -2000", "tell u2; = -2000", "tell u9; = -2000");
    of("a number SEEN out of range", "tell s000; = -2000", "tell s017; = -2000", "tell s100; = -2000", "tell s199; = -2000", "tell s116; = 1");
    of("a number of CABS out of range", "tell b000; = -2000", "tell b009; = -2000", "tell b170; = -2000", "tell b999; = -2000", "tell b160; = 1");
    of("no such LOOKER", "tell p00; = -2000", "tell lp0;p10; = -2004", "tell lp0;p90; = -2004", "tell lp0;lp0;p10; = 3", "tell p20; = -2000");
    of("no such LOOKER so far", "tell p00;lp0; = -2000", "tell lp0;p10;lp0; = -2004", "count 0 = 0");
    of("any FIGURE, BELIEF, BETS of a digit is as it must be", "tell lp9;b019;p09; = 3");
  }

  private static void behindAllAhead() {
    of("one SEEN ahead, in the text", "tell s005;s005; = -2005", "tell s005;s105; = 2");
    of("one SEEN ahead of the text", "tell s005;", "tell b010;s005; = -2005", "belief 1 = 1", "tell s006; = 1");
    of("SEEN ahead, but no more", "tell s005;u0;s005; = 3", "tell w0;s005; = 2", "count 1 = 1");
    of("a full SHEET, in the text", "tell s001;s002;s003;s004;s005;s006;s007; = -2030", "count 1 = 0", "tell s001;s002;s003;s004;s005;s006; = 6");
    of("a full SHEET ahead of the text", "tell s001;s002;s003;s004;s005;s006;", "tell s007; = -2000", "tell s107; = 1", "tell u0;s007; = 2");
    of("an empty one (of u)", "tell u0; = -2000", "tell s001;u0;u0; = -2008", "tell s101;u0; = -2005", "count 2 = 0");
    of("an empty one behind w", "tell s001;s002;w0;u0; = -2013", "count 1 = 0");
    of("u of what was SEEN ahead of the text", "tell s001;", "tell u0; = 1", "tell u0; = -2000");
    of("no room for more, ahead of the text", "tell lp0;lp0;lp0;lp0;lp0;", "tell lp0;lp0; = -2004", "count 0 = 5", "tell lp0; = 1", "tell lp0; = -2000");
    of("the first such STATEMENT", "tell w0;s200;u0; = -2003", "tell w0;w0;u0;s200; = -2006");
  }

  private static void allOrNothing() {
    String all = "s006;s106;w1;s107;b019;lm4;p09;p19;u0;";
    of("Without FAULT all of it comes", "tell s005;lp3;", "tell " + all, "count 1 = 1", "sheet 1 0 = 7", "belief 1 = 9",
        "looker 1 0 = 1", "looker 0 2 = 9", "looker 1 2 = 9");
    of("with one nothing: kind 2 at the end", "tell s005;s108;lp3;", "tell " + all + "s099; = -2038", "count 1 = 1", "sheet 0 0 = 5",
        "sheet 1 0 = 8", "belief 1 = 1", "count 0 = 1", "count 4 = 0");
    of("with one nothing: kind 1 at the end", "tell s005;s108;lp3;", "tell " + all + "s09 = -1041", "count 1 = 1", "sheet 0 0 = 5",
        "sheet 1 0 = 8", "belief 1 = 1", "count 0 = 1", "count 4 = 0");
    of("behind a FAULT the next comes", "tell s005;s005; = -2005", "tell s005; = 1", "tell lp = -1002", "tell lp0; = 1", "count 0 = 1");
    of("an image stays as it was", "tell s005;", "image = 1", "tell s006;lp0;", "on = 1", "count 0 = 0", "tell s006;s006; = -2005", "on = 1");
  }

  private static void guesses(String sheet, String... due) {
    String[] lines = new String[8];
    lines[0] = "tell lp9;lm9;lt9;le9;lf9;lh9;";
    lines[1] = "tell " + sheet;
    for (int kind = 0; kind < 6; kind++) {
      lines[kind + 2] = "guess " + kind + " 0 = " + due[kind];
    }
    of("KINDS by " + sheet, lines);
  }

  private static void kinds() {
    guesses("s001;", "1/1", "1/1", "1/1", "1/1", "10/1", "1/1");
    guesses("s016;", "31/1", "16/1", "31/1", "31/1", "25/1", "31/1");
    guesses("s001;s016;", "23/1", "16/1", "16/1", "30/1", "25/1", "39/2");
    guesses("s016;s015;", "23/1", "16/1", "30/1", "16/1", "25/1", "53/2");
    guesses("s001;s002;s003;s004;s005;s006;", "6/1", "6/1", "6/1", "6/1", "15/1", "6/1");
    guesses("s016;s015;s014;s013;s012;s011;", "53/3", "16/1", "26/1", "16/1", "25/1", "131/6");
    guesses("s001;s002;s003;s004;s005;s016;", "53/3", "16/1", "28/3", "18/1", "25/1", "27/2");
    of("0 by 1 of an empty one", "tell lp9;lm9;lt9;le9;lf9;lh9;s105;", "guess 0 0 = 0/1", "guess 1 0 = 0/1", "guess 2 0 = 0/1",
        "guess 3 0 = 0/1", "guess 4 0 = 0/1", "guess 5 0 = 0/1", "guess 4 1 = 14/1");
    of("FAR: FIGURE 0 as MOST", "tell lf0;lm0;s007;", "guess 0 0 = 7/1", "guess 1 0 = 7/1");
    of("FIGURE matters to FAR alone", "tell lp9;lp0;s007;s003;", "guess 0 0 = 19/2", "guess 1 0 = 19/2", "turn 0 4 9 = 9", "guess 0 0 = 16/1");
    of("a SHEET that grows and lessens", "tell lp0;s007;", "guess 0 0 = 13/1", "sees 0 3 = 2", "guess 0 0 = 19/2", "unsees 0 = 3",
        "guess 0 0 = 13/1", "unsees 0 = 7", "guess 0 0 = 0/1");
  }
}
