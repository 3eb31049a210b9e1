/**
 * Part II of the document, and the promises of what it names: each sentence that names a bound, what is
 * empty or what is full has lines of its own.
 */
public final class EdgesOfGuessingTest {
  private static final String NOTHING_BELIEVED =
      "tell b010;b020;b030;b040;b050;b060;b070;b080;b090;b100;b110;b120;b130;b140;b150;b160;";
  private static final String FULL_SHEETS = "tell s001;s002;s003;s004;s005;s006;s116;s115;s114;s113;s112;s111;";

  public static void main(String[] args) {
    chance();
    nearest();
    ordered();
    off();
    fairAndBest();
    sure();
    look();
    before();
    after();
    whichAndAbout();
    next();
    again();
    likeliest();
    more();
    gone();
    gap();
    bits();
    two();
    paid();
    whatOneIs();
    rows();
    judged();
    lots();
    image();
    turned();
    theOtherColour();
    counts();
    Check.end("EdgesOfGuessingTest");
  }

  private static void of(String sentence, String... lines) {
    Script.holds(sentence, lines);
  }

  private static void chance() {
    of("CHANCE of 1 of 1 CABS", "chance 1 1 0 = 0/1", "chance 1 1 1 = 1/1", "chance 1 1 2 = 0/1");
    of("CHANCE of 6 of 16 CABS", "chance 16 6 5 = 0/1", "chance 16 6 6 = 1/8008", "chance 16 6 16 = 3/8", "chance 16 6 17 = 0/1");
    of("CHANCE of all CABS", "chance 6 6 5 = 0/1", "chance 6 6 6 = 1/1", "chance 6 6 7 = 0/1", "chance 2 2 2 = 1/1");
    of("CHANCE of 1 of 16 CABS", "chance 16 1 0 = 0/1", "chance 16 1 1 = 1/16", "chance 16 1 16 = 1/16", "chance 16 1 17 = 0/1");
    of("CHANCE of numbers that are none", "chance 16 6 -1 = 0/1", "chance 16 6 MIN = 0/1", "chance 16 6 MAX = 0/1");
    of("MOST of 1 of 1 CABS", "most 1 1 0 = 0/1", "most 1 1 1 = 1/1", "most 1 1 2 = 1/1");
    of("MOST of 6 of 16 CABS", "most 16 6 5 = 0/1", "most 16 6 6 = 1/8008", "most 16 6 15 = 5/8", "most 16 6 16 = 1/1", "most 16 6 17 = 1/1");
    of("MOST of all CABS", "most 6 6 5 = 0/1", "most 6 6 6 = 1/1", "most 6 6 7 = 1/1");
    of("MOST of numbers that are none", "most 16 6 -1 = 0/1", "most 16 6 MIN = 0/1", "most 16 6 MAX = 1/1");
  }

  private static void nearest() {
    of("-9 none", "tell s005;", "nearest 0 5 = -9", "paid 0 5 = -9");
    of("-9 an empty SHEET", "tell lp0;s005;", "nearest 1 5 = -9", "nearest 0 5 = 0");
    of("-9 a SHEET that is empty again", "tell lp0;s005;", "unsees 0 = 5", "nearest 0 5 = -9");
    of("of several the least: alike", "tell lm0;lf0;lm9;s008;", "nearest 0 8 = 0", "nearest 0 16 = 0");
    of("of several the least: below and above", "tell lm0;lf2;s008;", "nearest 0 8 = 0", "nearest 0 9 = 0", "nearest 0 10 = 1");
    of("of several the least: above and below", "tell lf2;lm0;s008;", "nearest 0 8 = 1", "nearest 0 9 = 0", "nearest 0 10 = 0");
    of("exactly: 25 by 2 and 13", "tell lp0;lf4;s009;s002;", "nearest 0 12 = 0", "nearest 0 13 = 1", "nearest 0 16 = 1");
    of("exactly: 53 by 3 and 18", "tell le0;lp0;s001;s002;s003;s004;s005;s016;", "nearest 0 16 = 1", "turn 1 5 0 = 0", "nearest 0 16 = 0");
    of("n 1 and 16", "tell lm0;lf9;s003;", "nearest 0 1 = 0", "nearest 0 16 = 1");
    of("the last of 6 LOOKERS", "tell lf9;lf8;lf7;lf6;lf5;lf4;s003;", "nearest 0 7 = 5", "nearest 0 1 = 5", "nearest 0 16 = 0");
  }

  private static void ordered() {
    of("ORDERED: -9", "tell lp0;s005;", "ordered 0 0 = 0", "ordered 0 1 = -9", "ordered 0 MAX = -9");
    of("ORDERED: -9 no LOOKERS", "tell s005;", "ordered 0 0 = -9");
    of("ORDERED: -9 an empty SHEET, too", "tell lp0;s005;", "ordered 1 0 = -9", "ordered 1 1 = -9");
    of("alike by numbers", "tell lm0;lf0;lm5;lf0;lm9;lf0;s005;", "ordered 0 0 = 0", "ordered 0 1 = 1", "ordered 0 2 = 2",
        "ordered 0 3 = 3", "ordered 0 4 = 4", "ordered 0 5 = 5", "ordered 0 6 = -9");
    of("the least first", "tell lf9;lf8;lf7;lf6;lf5;lf4;s005;", "ordered 0 0 = 5", "ordered 0 5 = 0", "ordered 0 6 = -9");
    of("by fractions: 53 by 3 and 18", "tell le0;lp0;s001;s002;s003;s004;s005;s016;", "ordered 0 0 = 1", "ordered 0 1 = 0");
  }

  private static void off() {
    of("OFF, MEAN: 1 of 1 CABS", "tell lp9;lf9;", "off 0 1 1 = 0/1", "mean 0 1 1 = 1/1", "off 1 1 1 = 81/1", "mean 1 1 1 = 10/1");
    of("OFF, MEAN: 4 of 10 CABS", "tell lp9;lm9;lt9;le9;lf9;lh9;", "off 0 10 4 = 11/4", "off 1 10 4 = 16/5", "off 2 10 4 = 11/2",
        "off 3 10 4 = 44/15", "off 4 10 4 = 313/5", "off 5 10 4 = 55/16");
    of("MEAN: 4 of 10 CABS", "tell lp9;lm9;lt9;le9;lf9;lh9;", "mean 0 10 4 = 10/1", "mean 1 10 4 = 44/5", "mean 2 10 4 = 10/1",
        "mean 3 10 4 = 10/1", "mean 4 10 4 = 89/5", "mean 5 10 4 = 10/1");
    of("OFF, MEAN: 1 of 10 CABS", "tell le9;lf9;", "off 0 10 1 = 33/1", "mean 0 10 1 = 10/1", "off 1 10 1 = 57/2", "mean 1 10 1 = 29/2");
    of("OFF, MEAN: all CABS", "tell lh9;lf9;", "off 0 4 4 = 0/1", "mean 0 4 4 = 4/1", "off 1 4 4 = 81/1", "mean 1 4 4 = 13/1");
    of("OFF, MEAN: all but one", "tell lt0;lf9;", "off 0 5 4 = 1/2", "mean 0 5 4 = 5/1", "off 1 5 4 = 388/5", "mean 1 5 4 = 69/5");
    of("over all ways, whatever is SEEN", "tell lm0;s016;s015;", "off 0 10 1 = 57/2", "mean 0 10 4 = 44/5");
  }

  private static void fairAndBest() {
    of("FAIR: right for k, not for all n", "tell lm0;lf0;", "fair 0 1 = 0", "fair 0 4 = 0", "fair 1 1 = 0", "fair 1 4 = 0");
    of("FAIR: right for another n, not for k", "tell lf4;lf1;", "mean 0 9 1 = 9/1", "fair 0 1 = 0", "mean 1 9 4 = 9/1", "fair 1 4 = 0");
    of("FAIR: k 1 .. 4", "tell lp0;lt0;le0;lh0;", "fair 0 1 = 1", "fair 0 4 = 1", "fair 1 1 = 1", "fair 1 4 = 1", "fair 2 1 = 1",
        "fair 2 4 = 1", "fair 3 1 = 1", "fair 3 4 = 1", "fair 3 5 = no -6", "fair 3 0 = no -4");
    of("BEST: -9 no LOOKERS", "best 1 1 = -9", "best 10 4 = -9", "tell lf9;", "best 10 4 = 0");
    of("BEST: of several the least", "tell lf9;lm0;lf0;lm3;", "best 10 4 = 1", "best 1 1 = 1");
    of("BEST: fractions of unlike belows", "tell lp0;lm0;le0;", "best 10 4 = 0", "best 10 1 = 1", "turn 0 5 0 = 0", "best 10 4 = 2", "turn 2 2 0 = 30", "best 10 4 = 1");
    of("BEST: the last of 6", "tell lf9;lf8;lf7;lf6;lf5;lf4;", "best 1 1 = 5", "best 10 4 = 5");
  }

  private static void sure() {
    of("16 for an empty one", "sure 0 1 1 = 16", "sure 0 20 20 = 16", "sure 1 1 20 = 16");
    of("a by b: the least and the greatest", "tell s001;", "sure 0 1 20 = 16", "sure 0 1 1 = 1", "sure 0 20 20 = 1", "sure 0 19 20 = 1");
    of("still as likely, just: 1 by 16", "tell s001;", "sure 0 1 16 = 16", "sure 0 1 15 = 15", "sure 0 2 20 = 10", "sure 0 2 19 = 9");
    of("still as likely, just: 7 by 8", "tell s015;s001;", "sure 0 7 8 = 16", "sure 0 8 9 = 15");
    of("still as likely, just: 1 by 7 of a full SHEET", FULL_SHEETS, "sure 0 1 7 = 7", "sure 0 1 6 = 6", "sure 0 1 20 = 7", "sure 1 1 20 = 16");
    of("16 at most", "tell s016;s115;s114;", "sure 0 1 1 = 16", "sure 0 1 20 = 16", "sure 1 1 20 = 16", "sure 1 1 1 = 15");
  }

  private static void look() {
    of("LOOK: 1 .. 6", "look 1 1 = 1", "look 16 1 = 1", "look 11 11 = 6", "look 10 10 = 6");
    of("more likely than not, not as likely", "look 2 2 = 2", "look 12 12 = -9", "look 4 4 = 3");
    of("-9 no number is v or more", "look 1 2 = -9", "look 15 16 = -9", "look 1 16 = -9", "look 5 6 = -9");
    of("-9 6 are too few", "look 12 12 = -9", "look 16 16 = -9", "look 16 15 = 5");
    of("never more than there are", "look 1 1 = 1", "look 3 3 = 2", "look 5 5 = 3");
  }

  private static void before() {
    of("BEFORE: 0 by 1, if all are 0", NOTHING_BELIEVED, "before 1 = 0/1", "before 16 = 0/1");
    of("BEFORE: one alone", NOTHING_BELIEVED, "believes 16 1 = 0", "before 16 = 1/1", "before 1 = 0/1", "before 15 = 0/1");
    of("BEFORE: 9 each", "tell b019;b029;b039;b049;b059;b069;b079;b089;b099;b109;b119;b129;b139;b149;b159;b169;", "before 1 = 1/16", "before 16 = 1/16");
    of("BEFORE: a SHEET doesn't matter", "tell s016;", "before 1 = 1/16");
  }

  private static void after() {
    of("AFTER: 0, if n is less than GREATEST", "tell s016;s102;", "after 0 15 = 0/1", "after 0 16 = 1/1", "after 1 1 = 0/1", "after 0 1 = 0/1");
    of("AFTER: n is GREATEST", "tell s001;", "after 0 1 = 720720/2436559", "after 0 16 = 45045/2436559");
    of("AFTER a full SHEET", FULL_SHEETS, "after 0 5 = 0/1", "after 0 6 = 3640/4367", "after 0 16 = 5/48037", "after 1 15 = 0/1", "after 1 16 = 1/1");
    of("AFTER an empty SHEET as BEFORE", "tell b169;b020;", "after 0 16 = 9/23", "after 1 16 = 9/23", "after 0 2 = 0/1", "after 0 1 = 1/23");
    of("AFTER: 0 by 1, if all BELIEFS are 0", NOTHING_BELIEVED, "after 0 1 = 0/1", "after 1 16 = 0/1", "sees 0 5 = 1", "after 0 5 = 0/1");
    of("AFTER: 0 by 1, if all from GREATEST on are 0", NOTHING_BELIEVED, "believes 4 9 = 0", "after 0 4 = 1/1", "sees 0 5 = 1",
        "after 0 4 = 0/1", "after 0 5 = 0/1", "after 0 16 = 0/1", "after 1 4 = 1/1");
  }

  private static void whichAndAbout() {
    of("WHICH: of several the least", "which 0 = 1", "believes 1 0 = 1", "which 0 = 2", "believes 16 2 = 1", "which 0 = 16", "believes 15 2 = 1", "which 0 = 15");
    of("WHICH: n is GREATEST", "tell s016;s101;", "which 0 = 16", "which 1 = 1");
    of("WHICH: alike likely behind a SHEET", NOTHING_BELIEVED, "believes 4 1 = 0", "believes 8 2 = 0", "sees 0 1 = 1", "which 0 = 4", "which 1 = 8");
    of("WHICH: -9 all are 0", NOTHING_BELIEVED, "which 0 = -9", "which 1 = -9", "believes 4 9 = 0", "which 0 = 4", "sees 0 5 = 1", "which 0 = -9", "which 1 = 4");
    of("ABOUT: 0 by 1, if all are 0", NOTHING_BELIEVED, "about 0 = 0/1", "about 1 = 0/1", "believes 4 9 = 0", "about 0 = 4/1", "sees 0 5 = 1", "about 0 = 0/1");
    of("ABOUT: empty, one and full SHEETS", "about 0 = 17/2", "sees 0 1 = 1", "about 0 = 11531520/2436559");
    of("ABOUT: full SHEETS", FULL_SHEETS, "about 0 = 2480/397", "about 1 = 16/1");
    of("ABOUT: n 1 and 16 alone", NOTHING_BELIEVED, "believes 1 1 = 0", "about 0 = 1/1", "believes 1 0 = 1", "believes 16 1 = 0", "about 0 = 16/1");
  }

  private static void next() {
    of("NEXT: 0 by 1, if all are 0", NOTHING_BELIEVED, "next 0 = 0/1", "believes 4 9 = 0", "next 0 = 1/1", "sees 0 5 = 1", "next 0 = 0/1", "next 1 = 1/1");
    of("NEXT: n of k: nothing more to SEE: not", NOTHING_BELIEVED, "believes 1 1 = 0", "next 0 = 1/1", "sees 0 1 = 1", "next 0 = 0/1");
    of("NEXT: n of 6", NOTHING_BELIEVED, "believes 6 1 = 0", "tell s001;s002;s003;s004;s005;s006;", "next 0 = 0/1", "believes 7 7 = 0", "next 0 = 1/2");
    of("NEXT: of an empty SHEET", "next 0 = 1/1", "next 1 = 1/1");
    of("NEXT: of a SHEET with 1", "tell s001;", "next 0 = 1715839/2436559");
    of("NEXT: of a SHEET with 16", "tell s016;", "next 0 = 0/1");
    of("NEXT: of full SHEETS", FULL_SHEETS, "next 0 = 727/4367", "next 1 = 0/1");
    of("NEXT: one that is not on it", NOTHING_BELIEVED, "believes 4 1 = 0", "tell s002;s003;", "next 0 = 1/2", "unsees 0 = 3", "next 0 = 2/3");
  }

  private static void again() {
    of("AGAIN: of 1 CABS", "again 1 1 1 = 1/1", "again 1 6 1 = 1/1", "again 1 6 2 = 0/1", "again 1 1 6 = 0/1");
    of("AGAIN: of 16 CABS", "again 16 1 1 = 1/1", "again 16 6 1 = 1/1048576", "again 16 6 2 = 465/1048576", "again 16 6 3 = 4725/262144",
        "again 16 6 4 = 88725/524288", "again 16 6 5 = 61425/131072", "again 16 6 6 = 45045/131072");
    of("AGAIN: more unlike than looks", "again 16 1 2 = 0/1", "again 16 5 6 = 0/1");
    of("AGAIN: more unlike than CABS", "again 5 6 6 = 0/1", "again 5 6 5 = 72/625", "again 6 6 6 = 5/324", "again 6 6 5 = 25/108");
  }

  private static void likeliest() {
    of("LIKELIEST: -9 there is no end (u is k)", "likeliest 1 1 = -9", "likeliest 2 2 = -9", "likeliest 5 5 = -9", "likeliest 6 6 = -9");
    of("LIKELIEST: the least u", "likeliest 2 1 = 1", "likeliest 6 1 = 1");
    of("LIKELIEST: the greatest u below k", "likeliest 3 2 = 2", "likeliest 4 3 = 5", "likeliest 5 4 = 8", "likeliest 6 5 = 13");
    of("LIKELIEST: u is above k", "likeliest 1 2 = no -3", "likeliest 5 6 = no -3");
  }

  private static void more() {
    of("MORE, ALIKE at first", "more 0 = 15/32", "more 1 = 1/16");
    of("MORE: 16 SEEN of one", "tell s016;", "more 0 = 15/16", "more 1 = 1/16");
    of("MORE: 16 SEEN of the other", "tell s116;", "more 0 = 0/1", "more 1 = 1/16");
    of("MORE: 16 SEEN of both", "tell s016;s116;", "more 0 = 0/1", "more 1 = 1/1");
    of("MORE: 0 by 1, if all BELIEFS are 0", NOTHING_BELIEVED, "more 0 = 0/1", "more 1 = 0/1");
    of("MORE: 0 by 1, if all of COLOUR 0 are 0", NOTHING_BELIEVED, "believes 5 1 = 0", "sees 0 6 = 1", "more 0 = 0/1", "more 1 = 0/1", "unsees 0 = 6", "more 1 = 1/1");
    of("MORE: 0 by 1, if all of COLOUR 1 are 0", NOTHING_BELIEVED, "believes 5 1 = 0", "sees 1 6 = 1", "more 0 = 0/1", "more 1 = 0/1", "unsees 1 = 6", "more 1 = 1/1");
    of("MORE: just one more", NOTHING_BELIEVED, "believes 15 1 = 0", "believes 16 1 = 0", "sees 0 16 = 1", "more 0 = 1/2", "more 1 = 1/2");
  }

  private static void gone() {
    of("GONE: 1 CAB", "gone 1 0 2 = 1/1", "gone 1 1 2 = 1/2", "gone 1 0 20 = 1/1", "gone 1 1 20 = 19/20", "gone 1 2 2 0 = no -6");
    of("GONE: 12 CABS, 1 in 2", "gone 12 0 2 = 1/1", "gone 12 1 2 = 4095/4096", "gone 12 12 2 = 1/4096");
    of("GONE: 12 CABS, 1 in 20", "gone 12 0 20 = 1/1", "gone 12 1 20 = 4095999999999999/4096000000000000",
        "gone 12 11 20 = 3611198025844789/4096000000000000", "gone 12 12 20 = 2213314919066161/4096000000000000");
  }

  private static void gap() {
    of("GAP: ahead of the least, too", "tell s016;", "gap 0 0 = 15", "gap 0 1 = 16");
    of("GAP: 1 alone", "tell s001;", "gap 0 0 = 0", "gap 0 1 = 1");
    of("GAP: -9 of an empty one", "gap 0 0 = -9", "gap 1 1 = -9", "sees 0 7 = 1", "gap 1 0 = -9", "unsees 0 = 7", "gap 0 0 = -9", "gap 0 1 = -9");
    of("GAP: of several the least", "tell s009;s003;s006;", "gap 0 0 = 2", "gap 0 1 = 3", "tell u0;u0;u0;s001;s005;s009;s013;", "gap 0 0 = 3", "gap 0 1 = 5");
    of("GAP: the greater of these two, at the end", "tell s001;s016;s002;", "gap 0 0 = 13", "gap 0 1 = 16");
    of("GAP: full SHEETS", FULL_SHEETS, "gap 0 0 = 0", "gap 0 1 = 1", "gap 1 0 = 10", "gap 1 1 = 11");
    of("GAP: not behind the greatest", "tell s003;s001;", "gap 0 0 = 1", "gap 0 1 = 3");
  }

  private static void bits() {
    of("MISSING: 1 alone, 16 alone, none", "tell s001;s116;", "missing 0 = 0", "missing 1 = 65534", "unsees 1 = 16", "missing 1 = 0");
    of("MISSING: less than GREATEST", "tell s003;s002;", "missing 0 = 2");
    of("MISSING: full SHEETS", FULL_SHEETS, "missing 0 = 0", "missing 1 = 2046");
    of("BOTH: none, 1, 16", "missing -1 = 0", "sees 0 1 = 1", "missing -1 = 0", "sees 1 1 = 1", "missing -1 = 2", "sees 1 16 = 2", "sees 0 16 = 2", "missing -1 = 65538");
    of("BOTH: full SHEETS", "tell s001;s002;s003;s004;s005;s016;s116;s105;s104;s103;s102;s101;", "missing -1 = 65598");
    of("RISING: none, 1, all, greater than all ahead", "of 0 4 = 0", "sees 0 5 = 1", "of 0 4 = 1", "sees 0 4 = 2", "of 0 4 = 1", "sees 0 6 = 3",
        "of 0 4 = 2", "unsees 0 = 6", "sees 0 16 = 3", "of 0 4 = 2");
  }

  private static void two() {
    of("TWO: -9 an empty SHEET, too", "tell lp0;lm0;s005;", "two 0 1 1 5 = -9", "two 0 1 0 5 = 0");
    of("TWO: n 1 and 16", "tell lm3;lp3;lf3;s002;s009;", "two 0 1 0 1 = 0", "two 0 1 0 16 = 0", "two 2 1 0 16 = -9", "two 1 2 0 16 = -9");
    of("TWO: alike 1 each, one more costs as much as it brings", "tell lm0;lf0;s008;", "two 0 1 0 16 = 0", "two 1 0 0 16 = 0", "two 0 1 0 8 = 0");
    of("TWO: the first pair", "tell lf3;lp0;lh0;s002;s009;", "two 0 1 0 13 = 10", "two 1 0 0 13 = 1", "two 1 2 0 12 = 1", "two 1 2 0 13 = 0");
    of("TWO: no such pair", "tell lf3;lp0;s002;s009;", "two 0 1 0 14 = -9", "two 0 1 0 15 = -9", "two 1 0 0 15 = -9");
    of("TWO: the fifth and the sixth", "tell lm0;lm0;lm0;lm0;lf3;lp0;s002;s009;", "two 4 5 0 13 = 10", "two 5 4 0 13 = 1", "two 5 5 0 13 = no -1");
  }

  private static void paid() {
    of("PAID: -9 changes nothing", "tell lp0;s005;", "paid 1 5 = -9", "count 4 = 0");
    of("PAID: n 1 and 16", "tell lm0;lf9;s003;", "paid 0 1 = 0", "paid 0 16 = 1", "looker 0 2 = 1", "looker 1 2 = 1");
    of("PAID: of several the least", "tell lf2;lm0;s008;", "paid 0 9 = 0", "looker 0 2 = 1", "looker 1 2 = 0");
    of("PAID: 99 at most", "tell lm0;s005;", "98 x paid 0 5", "looker 0 2 = 98", "paid 0 5 = 0", "looker 0 2 = 99", "paid 0 5 = 0", "looker 0 2 = 99");
  }

  private static void whatOneIs() {
    String six = "tell s016;s001;s008;s003;s012;s005;";
    of("an empty ROW is so of all", "tell lf9;s005;", "whatIs 0 0 0 = 63", "whatIs 0 0 1 = 1023", "whatIs 0 1 0 = 63", "whatIs 0 1 1 = 1023");
    of("a ROW as long as the SHEET", "tell lp0;s005;", "row 9 = 1", "whatIs 0 0 0 = 45", "whatIs 0 0 1 = 1023", "whatIs 0 1 0 = no -3");
    of("a ROW longer by one", "tell lp0;s005;", "row 9 = 1", "row 9 = 2", "whatIs 0 0 0 = no -3", "sees 0 5 = no -3", "sees 0 6 = 2", "whatIs 0 0 0 = 32");
    of("a ROW for a full SHEET: PLAIN", six, "tell lp0;", "row 31 = 1", "row 23 = 2", "row 20 = 3", "row 19 = 4", "row 18 = 5",
        "whatIs 0 0 0 = 1", "row 17 = 6", "whatIs 0 0 0 = 1", "whatIs 0 0 1 = 1023", "row 17 = 7", "whatIs 0 0 0 = no -3");
    of("a ROW for a full SHEET: HALF", six, "tell lh0;", "row 31 = 1", "row 19 = 2", "row 18 = 3", "row 16 = 4", "row 16 = 5", "row 15 = 6",
        "whatIs 0 0 0 = 32", "whatIs 0 0 1 = 1023");
    of("a ROW that is so but for the last", six, "tell lh0;", "row 31 = 1", "row 19 = 2", "row 18 = 3", "row 16 = 4", "row 16 = 5", "row 16 = 6",
        "whatIs 0 0 0 = 0", "whatIs 0 0 1 = 0");
    of("FIGURES 0 and 9", "tell lf5;s007;", "row 16 = 1", "whatIs 0 0 1 = 512", "whatIs 0 0 0 = 0", "turn 0 4 9 = 45", "whatIs 0 0 0 = 16",
        "clear = 1", "row 7 = 1", "whatIs 0 0 1 = 1", "whatIs 0 0 0 = 2", "turn 0 4 0 = 49", "whatIs 0 0 0 = 18");
    of("numbers that no one GUESSES", "tell lf0;s001;", "row 0 = 1", "whatIs 0 0 0 = 0", "whatIs 0 0 1 = 0", "clear = 1", "row 99 = 1", "whatIs 0 0 0 = 0", "whatIs 0 0 1 = 0");
    of("cut: 41 by 3, 40 by 3", "tell lp0;s003;s007;s011;", "row 5 = 1", "row 9 = 2", "row 13 = 3", "whatIs 0 0 0 = 37", "clear = 3",
        "row 5 = 1", "row 9 = 2", "row 14 = 3", "whatIs 0 0 0 = 0");
    of("cut: 39 by 2", "tell lh0;s016;s001;", "row 31 = 1", "row 19 = 2", "whatIs 0 0 0 = 32", "clear = 2", "row 31 = 1", "row 20 = 2", "whatIs 0 0 0 = 0");
    of("ENDS of one number as PLAIN", "tell le0;s007;s003;", "row 13 = 1", "whatIs 0 0 0 = 45", "row 10 = 2", "whatIs 0 0 0 = 8");
    of("it stays", "tell lp0;s005;", "row 9 = 1", "whatIs 0 0 0 = 45", "count 6 = 1", "whatIs 0 0 0 = 45", "clear = 1");
  }

  private static void rows() {
    of("ROW: 0 .. 99", "row 0 = 1", "row 99 = 2", "row 100 = no -6", "row -1 = no -4", "count 6 = 2");
    of("ROW: 16 at most", "15 x row 5", "row 99 = 16", "row 5 = no -6", "count 6 = 16", "clear = 16", "row 5 = 1");
    of("clear of none", "clear = 0", "row 5 = 1", "clear = 1", "clear = 0", "count 6 = 0");
    of("a full ROW is JUDGED, then there is room", "16 x row 5", "judge 5 = 1", "count 6 = 0", "row 5 = 1");
  }

  private static void judged() {
    of("JUDGED: an empty ROW", "judge 1 = -9", "judge 16 = -9");
    of("JUDGED: each 1 .. n", "row 1 = 1", "row 5 = 2", "judge 5 = -9", "row 5 = 1", "row 6 = 2", "judge 5 = 1", "row 1 = 1", "row 0 = 2", "judge 5 = 1");
    of("JUDGED: the place from 0", "row 0 = 1", "judge 16 = 0", "row 17 = 1", "judge 16 = 0", "row 99 = 1", "judge 16 = 0", "row 16 = 1", "judge 15 = 0");
    of("JUDGED: none twice", "row 7 = 1", "row 7 = 2", "judge 16 = 1", "row 16 = 1", "row 1 = 2", "row 16 = 3", "judge 16 = 2");
    of("JUDGED: the first of several", "row 7 = 1", "row 9 = 2", "row 7 = 3", "row 0 = 4", "judge 9 = 2", "row 10 = 1", "row 10 = 2", "judge 9 = 0");
    of("JUDGED: n 1", "row 1 = 1", "judge 1 = -9", "row 1 = 1", "row 1 = 2", "judge 1 = 1", "row 2 = 1", "judge 1 = 0");
    of("JUDGED: all 16", "row 16 = 1", "row 15 = 2", "row 14 = 3", "row 13 = 4", "row 12 = 5", "row 11 = 6", "row 10 = 7", "row 9 = 8", "row 8 = 9",
        "row 7 = 10", "row 6 = 11", "row 5 = 12", "row 4 = 13", "row 3 = 14", "row 2 = 15", "row 1 = 16", "judge 16 = -9");
    of("JUDGED: the last of 16", "row 16 = 1", "row 15 = 2", "row 14 = 3", "row 13 = 4", "row 12 = 5", "row 11 = 6", "row 10 = 7", "row 9 = 8", "row 8 = 9",
        "row 7 = 10", "row 6 = 11", "row 5 = 12", "row 4 = 13", "row 3 = 14", "row 2 = 15", "row 2 = 16", "judge 16 = 15");
    of("JUDGED: whichever it answers, the ROW has none then", "row 7 = 1", "judge 16 = -9", "count 6 = 0", "row 0 = 1", "row 7 = 2", "judge 16 = 0", "count 6 = 0");
    of("JUDGED: what is SEEN doesn't matter", "tell s007;s107;", "row 7 = 1", "judge 7 = -9", "count 1 = 1");
  }

  private static void lots() {
    of("LOTS: n 1 and 20", "lots 1 3 0 = 16", "lots 1 3 1 = 1", "lots 20 0 0 = 275", "lots 20 0 1 = 13", "lots 19 0 0 = 261", "lots 19 0 1 = 12");
    of("LOTS: a seed that is the greatest int", "lots 1 MAX 0 = 14", "lots 1 MAX 1 = 1", "lots 20 MAX 0 = 252", "lots 20 MAX 1 = 8");
    of("LOTS: a seed that is the least int", "lots 1 MIN 0 = 10", "lots 1 MIN 1 = 0", "lots 20 MIN 0 = 275", "lots 20 MIN 1 = 13");
    of("LOTS: seeds around 0", "lots 20 -1 0 = 252", "lots 20 -1 1 = 8", "lots 20 0 0 = 275", "lots 20 1 0 = 272", "lots 20 1 1 = 14");
    of("LOTS: drawn again, if it was SEEN", "lots 1 17 0 = 13", "lots 1 24 0 = 14", "lots 2 38 0 = 24", "lots 2 45 0 = 25");
    of("LOTS: nothing changes by it", "tell s005;lp0;", "row 7 = 1", "lots 20 5 0 = 259", "count 1 = 1", "count 6 = 1", "sheet 0 0 = 5", "lots 20 5 0 = 259");
  }

  private static void image() {
    of("no IMAGE", "on = no -3", "on = no -3", "image = 0", "on = 0");
    of("THE IMAGE of nothing", "image = 0", "tell s005;s106;lp0;b019;", "on = 0", "count 0 = 0", "count 1 = 0", "count 2 = 0", "belief 1 = 1", "count 3 = 16");
    of("THE IMAGE of full SHEETS", FULL_SHEETS, "image = 12", "tell w0;w1;", "image = 0", "on = 0", "count 1 = 0");
    of("ON from full SHEETS", FULL_SHEETS, "image = 12", "tell w0;w1;s016;", "on = 12", "sheet 0 5 = 6", "sheet 1 5 = 11", "sees 0 7 = no -6", "on = 12");
    of("THE IMAGE holds 6 LOOKERS with all of theirs", "tell lp1;lm2;lt3;le4;lf5;lh6;p59;p01;", "image = 0", "turn 5 0 0 = 56", "tell p59;p03;", "on = 0",
        "looker 5 0 = 5", "looker 5 1 = 6", "looker 5 2 = 9", "looker 0 2 = 1", "count 0 = 6");
    of("but it: an image is not in it", "tell s005;", "image = 1", "tell s006;", "on = 1", "tell s007;s008;", "on = 1", "count 1 = 1");
    of("but the ROW", "row 5 = 1", "image = 0", "row 6 = 2", "on = 0", "count 6 = 2", "judge 5 = 1");
    of("but letters", "write lp", "image = 0", "write 0;", "on = 0", "count 7 = 4", "evening = 1", "count 0 = 1");
    of("but REFUSALS", "sees 2 1 = no -1", "image = 0", "sees 2 1 = no -1", "sees 0 0 = no -4", "on = 0");
    of("how many are SEEN in all", "tell s005;s104;s103;", "image = 3", "tell w0;w1;", "on = 3", "unsees 1 = 3", "image = 2", "on = 2");
  }

  private static void turned() {
    of("KIND, FIGURE become others: his alone", "tell lp1;lp2;lp3;", "turn 2 4 5 = 3", "looker 2 0 = 4", "looker 2 1 = 5", "looker 0 1 = 1",
        "looker 1 0 = 0", "looker 1 1 = 2", "turn 1 5 9 = 2", "turn 1 0 0 = 59");
    of("KIND, FIGURE become others: GUESSES go by them", "tell lm0;lf0;s008;s003;", "turn 1 4 9 = 40", "guess 1 0 = 17/1", "nearest 0 8 = 0",
        "nearest 0 16 = 1", "ordered 0 0 = 0", "turn 0 5 0 = 10", "guess 0 0 = 21/2", "nearest 0 10 = 0", "turn 1 1 9 = 49", "ordered 0 0 = 1");
    of("KIND, FIGURE become others: OFF, MEAN, FAIR go by them", "tell lm0;", "fair 0 2 = 0", "turn 0 0 0 = 10", "fair 0 2 = 1", "off 0 10 4 = 11/4",
        "mean 0 10 4 = 10/1", "turn 0 4 9 = 0", "fair 0 2 = 0", "mean 0 10 4 = 89/5", "off 0 10 4 = 313/5");
    of("KIND, FIGURE become others: BEST goes by them", "tell lp0;lm0;", "best 10 4 = 0", "turn 0 1 0 = 0", "turn 1 0 0 = 10", "best 10 4 = 1");
    of("ON: LOOKERS that came behind THE IMAGE are none", "tell lm0;s005;", "image = 1", "tell lp0;lf9;", "best 10 4 = 1", "nearest 0 9 = 1", "on = 1",
        "best 10 4 = 0", "nearest 0 9 = 0", "ordered 0 0 = 0", "ordered 0 1 = -9", "paid 0 9 = 0", "guess 1 0 0 = no -1", "two 0 1 0 5 = no -1",
        "turn 0 4 9 = 10", "ordered 0 0 = 0", "ordered 0 1 = -9");
    of("ON: one who comes then has no BETS", "image = 0", "tell lp0;p09;", "on = 0", "tell lm4;", "looker 0 0 = 1", "looker 0 1 = 4", "looker 0 2 = 0");
  }

  private static void theOtherColour() {
    of("a SHEET of COLOUR 1: NEAREST, ORDERED, PAID", "tell lm0;lp0;s016;s108;s103;", "nearest 1 11 = 1", "nearest 0 16 = 0", "ordered 1 0 = 0", "paid 1 11 = 1",
        "looker 1 2 = 1", "guess 1 1 = 11/1");
    of("a SHEET of COLOUR 1: TWO", "tell lf3;lp0;s016;s102;s109;", "two 0 1 1 13 = 10", "two 1 0 1 13 = 1", "two 0 1 1 14 = -9", "two 0 1 0 13 = 0");
    of("a SHEET of COLOUR 1, LOOKER 1: WHAT ONE IS", "tell lp0;lf4;s016;s107;s103;", "row 11 = 1", "whatIs 1 1 0 = 16", "whatIs 1 1 1 = 16",
        "whatIs 0 1 0 = 0", "whatIs 0 1 1 = 0", "whatIs 1 0 0 = 0", "whatIs 1 0 1 = 0", "turn 1 0 4 = 44", "whatIs 1 1 1 = 0", "whatIs 1 1 0 = 16",
        "clear = 1", "row 13 = 1", "whatIs 1 1 1 = 1023");
    of("a SHEET of COLOUR 1: SURE, WHICH, NEXT, GAP, MISSING", "tell s016;s105;", "sure 1 1 2 = 10", "which 1 = 5", "gap 1 0 = 4", "gap 1 1 = 5", "missing 1 = 30",
        "next 1 = 394519/935059", "about 1 = 8648640/935059", "after 1 16 = 45045/935059");
  }

  private static void counts() {
    of("-9 for another what", "count -1 = -9", "count 8 = -9", "count 9 = -9", "count 10 = -9", "count 17 = -9", "count MIN = -9", "count MAX = -9");
    of("5 0", "tell s005;lp0;p09;", "row 3 = 1", "image = 1", "count 5 = 0");
    of("the least and the greatest", "tell lp0;lp0;lp0;lp0;lp0;lp0;", FULL_SHEETS, "count 0 = 6", "count 1 = 6", "count 2 = 6", "16 x row 5", "count 6 = 16",
        "96 x letter 59", "count 7 = 96");
  }
}
