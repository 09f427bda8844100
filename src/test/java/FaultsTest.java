/** The texts of COUNCILS and RULES: those that are taken, and the FAULTS of the others. */
public final class FaultsTest {
  private FaultsTest() {
  }

  public static void main(String[] args) {
    councilsTaken();
    councilFaults();
    councilClauses();
    rulesTaken();
    ruleFaults();
    ruleBounds();
    badCouncilStays();
    badRuleEmptiesTape();
    tapeStaysWithSixRules();
    Calls.finish();
  }

  private static int answer(int place, int kind) {
    return -2 - (1 + 8 * place + kind);
  }

  private static void badCouncil(String text, int place, int kind) {
    VoicesLost x = new VoicesLost();
    Calls.due("council '" + text + "'", Calls.council(x, text), answer(place, kind));
    Calls.dueStatus("council '" + text + "'", x, 0, 0);
    Calls.due("members of '" + text + "'", x.count(0), 0);
    Calls.due("tape of '" + text + "'", x.count(9), text.length());
  }

  private static void badRule(String text, int place, int kind) {
    VoicesLost x = new VoicesLost();
    Calls.due("rule '" + text + "'", Calls.rule(x, text), answer(place, kind));
    Calls.due("tape behind '" + text + "'", x.count(9), 0);
    Calls.dueStatus("rule '" + text + "'", x, 0, 0);
    Calls.due("rules of '" + text + "'", x.count(2), 0);
  }

  private static void goodRule(String text) {
    VoicesLost x = new VoicesLost();
    Calls.due("rule '" + text + "'", Calls.rule(x, text), 0);
    Calls.due("tape behind '" + text + "'", x.count(9), 0);
  }

  private static void councilsTaken() {
    VoicesLost x = new VoicesLost();
    Calls.due("least", Calls.council(x, "members 1"), 1);
    Calls.due("most members", Calls.council(x, "members 00010"), 10);
    Calls.due("blanks", Calls.council(x, "  members3 ;point 1-2+3;  point 00099 -99 -0 ;bent2 5 ; voices 1 999 03  "), 3);
    Calls.due("points", x.count(1), 2);
    int[] worths = {1, -2, 3, 99, -99, 0};
    for (int i = 0; i < 6; i++) {
      Calls.due("worth " + i, x.worth(i % 3, i / 3), worths[i]);
    }
    Calls.dueVoices("told", x, 1, 999, 3);
    Calls.due("bent", x.voice(2, 1), 5);
    Calls.due("no bent", x.voice(1, 1), -1);
    Calls.due("bent twice", Calls.council(x, "members 2;bent 1 2;bent 1 4"), 2);
    Calls.due("the later bent", x.voice(1, 1), 4);
    Calls.dueVoices("without voices", x, 1, 1);
  }

  private static void councilFaults() {
    badCouncil("", 0, 0);
    badCouncil("   ", 3, 0);
    badCouncil("members", 7, 0);
    badCouncil("members  ", 9, 0);
    badCouncil("members 0", 8, 1);
    badCouncil("members 11", 8, 1);
    badCouncil("members 000001", 8, 1);
    badCouncil("members -1", 8, 0);
    badCouncil("members x", 8, 0);
    badCouncil("memberss 1", 0, 0);
    badCouncil("Members 1", 0, 0);
    badCouncil("member 1", 0, 0);
    badCouncil("3", 0, 0);
    badCouncil(";", 0, 0);
    badCouncil("members 1" + (char) 0, 9, 0);
    badCouncil("members 1" + (char) 255, 9, 0);
    badCouncil("members 1 2", 10, 0);
    badCouncil("members 1;", 10, 0);
    badCouncil("members 1;  ", 12, 0);
    badCouncil("members 1;;point 1", 10, 0);
    badCouncil("members 1;points 1", 10, 0);
    badCouncil("members 1;point", 15, 0);
    badCouncil("members 2;point 1", 17, 0);
    badCouncil("members 2;point 1;point 1 2", 17, 0);
    badCouncil("members 1;point 1 1", 18, 0);
    badCouncil("members 1;point 1 +", 18, 0);
    badCouncil("members 1;point 100", 16, 1);
    badCouncil("members 1;point -100", 17, 1);
    badCouncil("members 1;point +000001", 17, 1);
    badCouncil("members 1;point +", 17, 0);
    badCouncil("members 1;point + 1", 17, 0);
    badCouncil("members 1;point +-1", 17, 0);
    badCouncil("members 1;point *1", 16, 0);
    badCouncil("members 1;voices 0", 17, 1);
    badCouncil("members 1;voices 1000", 17, 1);
    badCouncil("members 1;voices +1", 17, 0);
    badCouncil("members 2;voices 1", 18, 0);
    badCouncil("members 1;voices 1 1", 19, 0);
    badCouncil("members 1;voices 1 1111111", 19, 0);
    badCouncil("members 1;bent 1 0", 15, 1);
    badCouncil("members 1;bent 0 6", 17, 1);
    badCouncil("members 1;bent 0", 16, 0);
    badCouncil("members 1;bent", 14, 0);
    badCouncil("members 1;bent 0 0 0", 19, 0);
  }

  private static void councilClauses() {
    badCouncil("point 1", 0, 4);
    badCouncil(" voices", 1, 4);
    badCouncil("bent 0 0", 0, 4);
    badCouncil("members 2;members 2", 10, 4);
    badCouncil("members 1;voices 1;voices 1", 19, 4);
    String points = "members 1" + ";point 1".repeat(12);
    Calls.due("12 points", Calls.council(new VoicesLost(), points), 1);
    badCouncil(points + "; point 1", points.length() + 2, 4);
    badCouncil(points + ";pointt 1", points.length() + 1, 0);
    String sixteen = "members 1" + ";bent 0 1".repeat(15);
    Calls.due("16 clauses", Calls.council(new VoicesLost(), sixteen), 1);
    badCouncil(sixteen + ";bent 0 1", sixteen.length() + 1, 4);
    badCouncil(sixteen + ";members 1", sixteen.length() + 1, 4);
    badCouncil(sixteen + ";bend 0 1", sixteen.length() + 1, 0);
    badCouncil(sixteen + ";", sixteen.length() + 1, 0);
    badCouncil(sixteen + "; 7", sixteen.length() + 2, 0);
  }

  private static void rulesTaken() {
    goodRule("yes");
    goodRule(" no ;keep; yes  ");
    goodRule("no if 1<2");
    goodRule("keep if member+point*worth/voices-sum=for and against<=most or left>=turn");
    goodRule("yes if[1<2]and not[not 0=00000 or 3>2]and 1=1;no if not not 1>=99999");
    goodRule("yes" + ";no".repeat(11));
    goodRule("yes if " + "[".repeat(10) + "1=1" + "]".repeat(10));
    goodRule("yes if " + "not ".repeat(10) + "1=1");
    goodRule("yes if " + "not [".repeat(5) + "1=1" + "]".repeat(5) + " and " + "not ".repeat(10) + "1=1");
    goodRule("yes if 1=1" + " or 1=1".repeat(19));
    goodRule("yes if 1=1" + "+1".repeat(57));
  }

  private static void ruleFaults() {
    badRule("", 0, 0);
    badRule("  ", 2, 0);
    badRule("members 1", 0, 0);
    badRule("keeps", 0, 0);
    badRule("yesif 1=1", 0, 0);
    badRule("yesX", 3, 0);
    badRule("yes 1", 4, 0);
    badRule("yes no", 4, 0);
    badRule("no;", 3, 0);
    badRule("no;;no", 3, 0);
    badRule("yes if", 6, 0);
    badRule("yes if ;no", 7, 0);
    badRule("no if x", 6, 0);
    badRule("no if if", 6, 0);
    badRule("keep if turn", 12, 0);
    badRule("keep if turn worth", 13, 0);
    badRule("yes if for = 1]", 14, 0);
    badRule("yes if [for = 1", 15, 0);
    badRule("yes if [for = 1;no", 15, 0);
    badRule("yes if [for] = 1", 11, 0);
    badRule("yes if []", 8, 0);
    badRule("yes if -1 < 2", 7, 0);
    badRule("yes if 1 + < 2", 11, 0);
    badRule("yes if 1 + [2] < 2", 11, 0);
    badRule("yes if 1 < = 2", 11, 0);
    badRule("yes if 1 == 2", 10, 0);
    badRule("yes if 1 => 2", 10, 0);
    badRule("yes if 1 <> 2", 10, 0);
    badRule("yes if 1 < 2 < 3", 13, 0);
    badRule("yes if 1 < 2 and", 16, 0);
    badRule("yes if 1 < 2 an 1", 13, 0);
    badRule("yes if 1 < 2 3", 13, 0);
    badRule("yes if 1 < 2 not 1 < 2", 13, 0);
    badRule("yes if 1 <= 000002", 12, 1);
    badRule("yes if 100000 < 1", 7, 1);
    badRule("yes if 1 <" + (char) 200, 10, 0);
  }

  private static void ruleBounds() {
    String twelve = "yes" + ";no".repeat(11);
    badRule(twelve + "; keep", twelve.length() + 2, 4);
    badRule(twelve + ";kep", twelve.length() + 1, 0);
    badRule(twelve + ";", twelve.length() + 1, 0);
    badRule("yes if " + "[".repeat(11) + "1=1", 17, 2);
    badRule("yes if " + "not ".repeat(11) + "1=1", 47, 2);
    badRule("yes if " + "not [".repeat(5) + "not 1=1", 32, 2);
    badRule("yes if " + "not[".repeat(5) + " [1=1", 28, 2);
    String sixty = "yes if 1=1" + " or 1=1".repeat(19);
    badRule(sixty + ";no if left=1", sixty.length() + 7, 3);
    badRule(sixty + "+1", sixty.length() + 1, 3);
    badRule(sixty + "+111111", sixty.length() + 1, 1);
    badRule(sixty + "+what", sixty.length() + 1, 0);
    badRule(sixty + "+", sixty.length() + 1, 0);
    // 59 stand ahead of the SIGN's VALUE, which is the 60th: its FACT is one too many.
    String nine = "yes if 1=1+1+1" + " or 1=1".repeat(18);
    badRule(nine + " or 1 <= 1", nine.length() + 6, 3);
    badRule(nine + " or 1 & 1", nine.length() + 6, 0);
  }

  /** A COUNCIL with a FAULT lets all be as it was, the TAPE too. */
  private static void badCouncilStays() {
    VoicesLost x = Calls.with("members 2;point 1 2;voices 4 5", "no");
    Calls.order(x, 0);
    x.vote(0);
    Calls.due("bad council", Calls.council(x, "members 3;"), answer(10, 0));
    Calls.due("still the members", x.count(0), 2);
    Calls.due("still the order", x.count(6), 1);
    Calls.due("still the turn", x.count(5), 1);
    Calls.due("still the tape", x.count(9), 10);
    Calls.due("mended", x.end(9) * 100 + x.council(), 903);
    Calls.dueStatus("bad council", x, 0, 0);
  }

  /** The TAPE is empty behind a RULE with a FAULT, wherever this lies; all else is as it was. */
  private static void badRuleEmptiesTape() {
    VoicesLost x = Calls.with("members 2;point 1 2", "no");
    Calls.due("a fault at the end", Calls.rule(x, "no if"), answer(5, 0));
    Calls.due("tape behind it", x.count(9), 0);
    Calls.due("nothing is left to be cut", x.end(2), VoicesLost.NONE);
    Calls.due("a fault at the begin", Calls.rule(x, "maybe"), answer(0, 0));
    Calls.due("tape behind it", x.count(9), 0);
    Calls.due("a fault in a number", Calls.rule(x, "yes if 123456=turn;no"), answer(7, 1));
    Calls.due("tape behind it", x.count(9), 0);
    Calls.due("an empty text", x.rule(), answer(0, 0));
    Calls.due("no room is taken", x.feed(0x6e6f2020, 0x20202020, 0x20202020, 0x20202020, 0x20202020), 20);
    Calls.due("the next rule", x.rule(), 1);
    Calls.due("rules", x.count(2), 2);
    Calls.due("members", x.count(0), 2);
    Calls.dueStatus("bad rules", x, 0, 0);
  }

  /** With six RULES told nothing happens, whether the text has a FAULT or not. */
  private static void tapeStaysWithSixRules() {
    VoicesLost x = Calls.with("members 2;point 1 2", "no", "no", "no", "no", "no", "no");
    Calls.due("a seventh", Calls.rule(x, "yes"), VoicesLost.NONE);
    Calls.due("its tape", x.count(9), 3);
    Calls.due("a seventh again", x.rule(), VoicesLost.NONE);
    Calls.due("a seventh with a fault", Calls.rule(x, "no if"), VoicesLost.NONE);
    Calls.due("its tape", x.count(9), 5);
    Calls.due("an empty seventh", Calls.rule(x, ""), VoicesLost.NONE);
    Calls.due("a council on the tape", Calls.rule(x, "members 3"), VoicesLost.NONE);
    Calls.due("its bytes are the same", x.council(), 3);
    Calls.due("rules", x.count(2), 6);
    Calls.dueStatus("seventh rules", x, 0, 0);
  }
}
