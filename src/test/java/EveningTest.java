/** Promises 2 and 3: letters, and the evening that they tell. */
public final class EveningTest {
  public static void main(String[] args) {
    letter();
    everyStatement();
    signFaults();
    everyOtherSignIsAFault();
    statementFaults();
    aheadOfTheText();
    aheadInTheText();
    signsComeFirst();
    nothingComesWithAFault();
    betsStayAtTheMost();
    Check.end("EveningTest");
  }

  private static void letter() {
    SixtyOneCabs x = new SixtyOneCabs();
    Check.due("letter(0)", x.letter(0), 1);
    Check.due("letter(255)", x.letter(255), 2);
    Check.refused("letter(-1)", x, 1, -4, x.letter(-1));
    Check.refused("letter(MIN)", x, 2, -4, x.letter(Integer.MIN_VALUE));
    Check.refused("letter(256)", x, 1, -6, x.letter(256));
    Check.refused("letter(MAX)", x, 2, -6, x.letter(Integer.MAX_VALUE));
    for (int i = 3; i <= 96; i++) {
      Check.due("letter " + i, x.letter('s'), i);
    }
    Check.refused("the 97th", x, 3, -6, x.letter('s'));
    Check.refused("below comes ahead of no room", x, 3, -4, x.letter(-1));
    Check.due("96 stay", x.count(7), 96);
    Check.due("a sign below all", x.evening(), -1000);
    Check.due("the letters are no more", x.count(7), 0);
    Check.due("and there is room", x.letter('s'), 1);
  }

  private static void everyStatement() {
    SixtyOneCabs x = new SixtyOneCabs();
    Check.due("all kinds", Check.evening(x, "lp0;lm1;lt2;le3;lf4;lh5;"), 6);
    for (int kind = 0; kind < 6; kind++) {
      Check.due("kind " + kind, x.looker(kind, 0), kind);
      Check.due("figure of " + kind, x.looker(kind, 1), kind);
      Check.due("bets of " + kind, x.looker(kind, 2), 0);
    }
    Check.due("letters are no more", x.count(7), 0);
    Check.due("seen, unseen, bets, beliefs", Check.evening(x, "s007;s016;u0;s116;p59;p53;b010;b169;"), 8);
    Check.due("seen", x.sheet(0, 0), 7);
    Check.due("unseen", x.sheet(0, 1), -9);
    Check.due("seen of 1", x.sheet(1, 0), 16);
    Check.due("bets", x.looker(5, 2), 12);
    Check.due("belief of 1", x.belief(1), 0);
    Check.due("belief of 16", x.belief(16), 9);
    Check.due("empty, also what is empty", Check.evening(x, "w0;w0;"), 2);
    Check.due("seen of 0", x.count(1), 0);
    Check.due("seen of 1", x.count(2), 1);
    Check.due("the longest", Check.evening(x, "w0;".repeat(32)), 32);
  }

  private static void fault(String text, int want) {
    SixtyOneCabs x = new SixtyOneCabs();
    Check.due("\"" + text + "\"", Check.evening(x, text), want);
    Check.due("\"" + text + "\": letters behind it", x.count(7), 0);
    for (int what = 11; what <= 16; what++) {
      Check.due("\"" + text + "\": count(" + what + ")", x.count(what), 0);
    }
  }

  private static void signFaults() {
    fault("", -1000);
    fault(";", -1000);
    fault("w0;;", -1003);
    fault("S001;", -1000);
    String[] all = {"s001;", "b011;", "lp0;", "w0;", "u0;", "p00;"};
    for (String statement : all) {
      for (int many = 1; many < statement.length(); many++) {
        String part = statement.substring(0, many);
        fault(part, -1000 - many);
        fault("w0;" + part, -1003 - many);
        fault(part + "x", -1000 - many);
      }
      fault(statement.substring(0, statement.length() - 1) + "0", -1000 - (statement.length() - 1));
    }
    fault("l0", -1001);
    fault("lpp", -1002);
    fault("s001;x", -1005);
    fault("w0;".repeat(31) + "s00", -1096);
    fault("w0;".repeat(31) + "b0x", -1095);
  }

  private static boolean fits(String signs, int c) {
    return signs.indexOf((char) c) >= 0;
  }

  private static void everyOtherSignIsAFault() {
    for (int c = 0; c <= 255; c++) {
      String sign = String.valueOf((char) c);
      fault(sign, fits("sblwup", c) ? -1001 : -1000);
      fault("l" + sign, fits("pmtefh", c) ? -1002 : -1001);
      fault("w" + sign, fits("0123456789", c) ? -1002 : -1001);
      fault("lp" + sign, fits("0123456789", c) ? -1003 : -1002);
      fault("p0" + sign, fits("0123456789", c) ? -1003 : -1002);
      fault("s00" + sign, fits("0123456789", c) ? -1004 : -1003);
      if (c != ';') {
        fault("w0" + sign, -1002);
      }
    }
  }

  private static void statementFaults() {
    fault("s201;", -2000);
    fault("s901;", -2000);
    fault("s000;", -2000);
    fault("s117;", -2000);
    fault("s099;", -2000);
    fault("b000;", -2000);
    fault("b170;", -2000);
    fault("b990;", -2000);
    fault("w2;", -2000);
    fault("u2;", -2000);
    fault("u0;", -2000);
    fault("p00;", -2000);
    fault("w0;s005;s005;", -2008);
    fault("s005;u0;u0;", -2008);
    fault("lp0;p10;", -2004);
    fault("lp0;p01;p90;", -2008);
    fault("p00;lp0;", -2000);
    fault("s001;s002;s003;s004;s005;s006;s007;", -2030);
    fault("lp0;lp0;lp0;lp0;lp0;lp0;lp0;", -2024);
  }

  private static void aheadOfTheText() {
    SixtyOneCabs x = Check.behind("s005;lp0;");
    Check.due("seen by an earlier evening", Check.evening(x, "b010;s005;"), -2005);
    Check.due("a looker of an earlier evening", Check.evening(x, "p03;"), 1);
    Check.due("his bets", x.looker(0, 2), 3);
    Check.due("unseen of an earlier evening", Check.evening(x, "u0;"), 1);
    Check.due("no more", x.count(1), 0);
    Check.due("five more lookers", Check.evening(x, "lm0;lm0;lm0;lm0;lm0;"), 5);
    Check.due("no room for one", Check.evening(x, "lm0;"), -2000);
  }

  private static void aheadInTheText() {
    SixtyOneCabs x = new SixtyOneCabs();
    Check.due("seen again behind w", Check.evening(x, "s005;w0;s005;"), 3);
    Check.due("seen again behind u", Check.evening(x, "u0;s005;u0;s005;"), 4);
    Check.due("room again behind w", Check.evening(x, "s001;s002;s003;s004;s006;w0;s006;"), 7);
    Check.due("what is seen", x.sheet(0, 0), 6);
    Check.due("how many", x.count(1), 1);
    Check.due("bets of one that comes in it", Check.evening(x, "lf7;p04;p04;"), 3);
    Check.due("his bets", x.looker(0, 2), 8);
  }

  private static void signsComeFirst() {
    fault("s201;x", -1005);
    fault("s201;s0", -1007);
    fault("s005;s005;b", -1011);
  }

  private static void nothingComesWithAFault() {
    SixtyOneCabs x = Check.behind("s005;lp3;");
    String[] faulty = {"s006;s106;b019;lm4;p09;u0;w1;s017;", "s006;s106;b019;lm4;p09;u0;w1;s0"};
    for (String text : faulty) {
      Check.holds(text, Check.evening(x, text) < 0);
      Check.due("seen of 0", x.count(1), 1);
      Check.due("seen of 1", x.count(2), 0);
      Check.due("beliefs", x.count(3), 16);
      Check.due("lookers", x.count(0), 1);
      Check.due("bets", x.count(4), 0);
    }
  }

  private static void betsStayAtTheMost() {
    SixtyOneCabs x = Check.behind("lp0;p09;p09;p09;p09;p09;p09;p09;p09;p09;p09;p08;");
    Check.due("98 bets", x.looker(0, 2), 98);
    Check.due("9 more", Check.evening(x, "p09;"), 1);
    Check.due("99 at most", x.looker(0, 2), 99);
    Check.due("none more", Check.evening(x, "p00;"), 1);
    Check.due("still 99", x.looker(0, 2), 99);
  }
}
