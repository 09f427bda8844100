/**
 * The Terms, I to III, the bounds that each sentence names: how long and how deep a text may be, how
 * large its NUMBERS, where reckoning goes round, where voices end, what the WORDS see at the edges.
 */
public final class TermsTest {
  private static final int NONE = VoicesLost.NONE;

  private TermsTest() {
  }

  public static void main(String[] args) {
    fullTexts();
    councilNumbers();
    councilSigns();
    councilRows();
    ruleNumbers();
    wholeWords();
    blanks();
    depth();
    items();
    leastOfOnePlace();
    reckoning();
    wordsAtEdges();
    behindInOrder();
    clausesInTurn();
    sidesOfVote();
    plainLaw();
    doubleLaw();
    halfLaw();
    caps();
    booksByLaw();
    oneVoiceEach();
    roundsOfTurn();
    Calls.finish();
  }

  private static void due(String what, int got, int want) {
    Calls.due(what, got, want);
  }

  private static int fault(int place, int kind) {
    return -2 - (1 + 8 * place + kind);
  }

  private static void council(String text, int want) {
    VoicesLost x = new VoicesLost();
    due("council '" + text + "'", Calls.council(x, text), want);
    Calls.dueStatus("council '" + text + "'", x, 0, 0);
  }

  private static void rule(String text, int want) {
    VoicesLost x = new VoicesLost();
    due("rule '" + text + "'", Calls.rule(x, text), want);
    Calls.dueStatus("rule '" + text + "'", x, 0, 0);
  }

  /** Whether a TEST holds for the one MEMBER, to whom the POINT is worth so much. */
  private static void holds(String test, int worth, boolean is) {
    VoicesLost x = Calls.with("members 1;point " + worth + ";bent 0 0", "yes if " + test + ";no");
    due("holds: " + test, x.says(0, 0), is ? 1 : 0);
  }

  /** "a text of at most 400 bytes", and the end is behind its last byte. */
  private static void fullTexts() {
    String most = "members 10" + ";point 1-2 3-4 5-6 7-8 9 0".repeat(12) + ";voices 1 2 3 4 5 6 7 8 9 10";
    council(most + " ".repeat(400 - most.length()), 10);
    council(most + " ".repeat(399 - most.length()) + ";", fault(400, 0));
    council(most + " ".repeat(399 - most.length()) + "x", fault(399, 0));
    council(" ".repeat(400), fault(400, 0));
    council(" ".repeat(391) + "members 1", 1);
    council(" ".repeat(393) + "members", fault(400, 0));
    council(" ".repeat(391) + "members 0", fault(399, 1));
    String longest = "no if turn*99999/99999=turn*99999/99999";
    String row = longest + (" or" + longest.substring(5)).repeat(7);
    rule(row + " ".repeat(400 - row.length()), 0);
    rule(row + " ".repeat(399 - row.length()) + ";", fault(400, 0));
    rule(" ".repeat(400), fault(400, 0));
    rule(" ".repeat(398) + "no", 0);
    rule(" ".repeat(397) + "no;", fault(400, 0));
    rule(" ".repeat(394) + "yes if", fault(400, 0));
  }

  /** "members NUMBER (1 to 10...)", "a NUMBER 0 to 99", "1 to 999", "of a MEMBER a RULE, 0 to 5". */
  private static void councilNumbers() {
    council("members 1", 1);
    council("members 10", 10);
    council("members 0", fault(8, 1));
    council("members 11", fault(8, 1));
    council("members 99999", fault(8, 1));
    council("members 00001", 1);
    council("members 000001", fault(8, 1));
    String[] worths = {"0", "99", "+0", "+99", "-0", "-99", "00099", "-00099"};
    for (String worth : worths) {
      council("members 1;point " + worth, 1);
    }
    council("members 1;point 100", fault(16, 1));
    council("members 1;point 000099", fault(16, 1));
    council("members 1;point +100", fault(17, 1));
    council("members 1;point -100", fault(17, 1));
    council("members 1;point -000000", fault(17, 1));
    council("members 1;voices 1", 1);
    council("members 1;voices 999", 1);
    council("members 1;voices 00999", 1);
    council("members 1;voices 0", fault(17, 1));
    council("members 1;voices 1000", fault(17, 1));
    council("members 1;voices 000999", fault(17, 1));
    council("members 3;bent 0 0", 3);
    council("members 3;bent 2 5", 3);
    council("members 3;bent 3 0", fault(15, 1));
    council("members 10;bent 9 0", 10);
    council("members 10;bent 10 0", fault(16, 1));
    council("members 3;bent 0 6", fault(17, 1));
    council("members 3;bent 000000 0", fault(15, 1));
    council("members 3;bent 0 000000", fault(17, 1));
    // 4294967297 is 1 where numbers go round in 32 bits.
    council("members 4294967297", fault(8, 1));
    council("members 1;point 4294967297", fault(16, 1));
  }

  /** "+ or -, directly ahead of it, or nothing, then a NUMBER"; "else 0 there". */
  private static void councilSigns() {
    council("members 2;point +1+2", 2);
    council("members 2;point 1-2", 2);
    council("members 2;point + 1 2", fault(17, 0));
    council("members 2;point - 1 2", fault(17, 0));
    council("members 2;point 1 -", fault(19, 0));
    council("members 2;point 1 - ", fault(19, 0));
    council("members 2;point 1 -;", fault(19, 0));
    council("members 2;point 1 --2", fault(19, 0));
    council("members 2;point 1 +-2", fault(19, 0));
    council("members +2", fault(8, 0));
    council("members -2", fault(8, 0));
    council("members 2;voices -1 2", fault(17, 0));
    council("members 2;voices 1 +2", fault(19, 0));
    council("members 2;bent +1 2", fault(15, 0));
    council("members 2;bent 1 -2", fault(17, 0));
    VoicesLost x = Calls.with("members 3;point -0+7-7;point 7-0+0");
    int[] worths = {0, 7, -7, 7, 0, 0};
    for (int i = 0; i < 6; i++) {
      due("worth " + i, x.worth(i % 3, i / 3), worths[i]);
    }
  }

  /** "for each MEMBER"; "also without members, or with too few VALUES or NUMBERS"; FAULTS of kind 4. */
  private static void councilRows() {
    council("members 10;point 1 2 3 4 5 6 7 8 9 0", 10);
    council("members 10;point 1 2 3 4 5 6 7 8 9", fault(34, 0));
    council("members 10;point 1 2 3 4 5 6 7 8 9 0 1", fault(37, 0));
    council("members 10;voices 1 2 3 4 5 6 7 8 9 10", 10);
    council("members 10;voices 1 2 3 4 5 6 7 8 9", fault(35, 0));
    council("members 10;voices 1 2 3 4 5 6 7 8 9 10 11", fault(39, 0));
    council("members 2;voices 1;point 1 1", fault(18, 0));
    council("members 2;bent 1;point 1 1", fault(16, 0));
    council("", fault(0, 0));
    council("point 1", fault(0, 4));
    council("voices 1", fault(0, 4));
    council("bent 0 0", fault(0, 4));
    council("  point", fault(2, 4));
    council("yes", fault(0, 0));
    council("members 1;members 1", fault(10, 4));
    council("members 1; members", fault(11, 4));
    council("members 1;voices 1;voices 1", fault(19, 4));
    council("members 1;voices 1;voices", fault(19, 4));
    String points = "members 1" + ";point 1".repeat(12);
    council(points, 1);
    council(points + ";voices 1;bent 0 0;bent 0 1", 1);
    council(points + ";point 1", fault(points.length() + 1, 4));
    council(points + ";point", fault(points.length() + 1, 4));
    String clauses = "members 1;voices 1" + ";bent 0 0".repeat(14);
    council(clauses, 1);
    for (String next : new String[] {"bent 0 0", "point 1", "members 1", "voices 1"}) {
      council(clauses + ";" + next, fault(clauses.length() + 1, 4));
      council(clauses + " ;  " + next, fault(clauses.length() + 4, 4));
    }
    council(clauses + ";", fault(clauses.length() + 1, 0));
    council(clauses + ";keep", fault(clauses.length() + 1, 0));
    council(clauses + ";;", fault(clauses.length() + 1, 0));
    VoicesLost x = Calls.with("members 10");
    due("all are present at first", x.count(3), 10);
    for (int member = 0; member < 10; member++) {
      due("one voice without voices", x.voice(member, 0), 1);
      due("true without a bent", x.voice(member, 1), NONE);
      due("present", x.voice(member, 2), 1);
    }
    due("no points without points", x.count(1), 0);
  }

  /** "NUMBER (1 to 5 digits, as far as digits go on)". */
  private static void ruleNumbers() {
    rule("yes if 0=0", 0);
    rule("yes if 99999=00000", 0);
    rule("yes if 100000=0", fault(7, 1));
    rule("yes if 000000=0", fault(7, 1));
    rule("yes if 0=999999", fault(9, 1));
    rule("yes if 0=0+123456", fault(11, 1));
    rule("yes if 4294967296=0", fault(7, 1));
    rule("yes if 1 2=12", fault(9, 0));
    rule("yes if +1=1", fault(7, 0));
    rule("yes if 1=-1", fault(9, 0));
    rule("yes if 1=+1", fault(9, 0));
    holds("99999=99998+1", 1, true);
    holds("00012=12", 1, true);
    holds("99999>99998", 1, true);
  }

  /** "WORDS (small letters, as far as these go on)". */
  private static void wholeWords() {
    String[] words = {"member", "point", "worth", "voices", "sum", "for", "against", "most", "left", "turn"};
    for (String word : words) {
      rule("no if " + word + "=" + word, 0);
      rule("no if " + word + "s=1", fault(6, 0));
      rule("no if 1=" + word + "x", fault(8, 0));
      rule("no if " + word.substring(0, word.length() - 1) + "=1", fault(6, 0));
      rule("no if " + word.toUpperCase() + "=1", fault(6, 0));
      rule("no if " + word + "z=1", fault(6, 0));
      rule("no if a" + word + "=1", fault(6, 0));
      rule("no if 1=" + word + "X", fault(8 + word.length(), 0));
      rule("no if " + word + word + "=1", fault(6, 0));
      rule("no if " + word + "1=1", fault(6 + word.length(), 0));
    }
    for (String word : new String[] {"yes", "no", "keep"}) {
      rule(word, 0);
      rule(word + " if 1=1", 0);
      rule(word + "if 1=1", fault(0, 0));
      rule(word + " iff 1=1", fault(word.length() + 1, 0));
      rule(word + " i 1=1", fault(word.length() + 1, 0));
      rule(word + " if1=1", 0);
      rule(word + word, fault(0, 0));
    }
    rule("yes if 1=1and 1=1or 1=1", 0);
    rule("yes if 1=1 andd 1=1", fault(11, 0));
    rule("yes if 1=1 an 1=1", fault(11, 0));
    rule("yes if 1=1 orr 1=1", fault(11, 0));
    rule("yes if 1=turnor 1=1", fault(9, 0));
    rule("yes if nott 1=1", fault(7, 0));
    rule("yes if not1=1", 0);
    rule("yes if notturn=1", fault(7, 0));
    council("memberss 1", fault(0, 0));
    council("members1", 1);
    council("members1;point1;voices1;bent0 0", 1);
    council("members1;pointvoices1", fault(9, 0));
  }

  /** "Blanks (32) stand between as one likes": no other byte is one, and none stands within. */
  private static void blanks() {
    for (int sign : new int[] {0, 9, 10, 13, 11, 31, 33, 127, 128, 160, 255}) {
      council("members" + (char) sign + "1", fault(7, 0));
      council((char) sign + "members 1", fault(0, 0));
      council("members 1" + (char) sign, fault(9, 0));
      rule("yes" + (char) sign, fault(3, 0));
      rule("yes if" + (char) sign + "1=1", fault(6, 0));
      rule("yes if 1" + (char) sign + "=1", fault(8, 0));
      rule("yes if 1=1" + (char) sign, fault(10, 0));
    }
    rule("  yes   if   1   <=   1   and   [   1   =   1   ]   ;   no   ", 0);
    rule("yes if 1 < = 1", fault(11, 0));
    rule("yes if 1 > = 1", fault(11, 0));
    rule("yes if 1 =< 1", fault(10, 0));
    rule("yes if tu rn=1", fault(7, 0));
    rule("y es", fault(0, 0));
    rule("yes i f 1=1", fault(4, 0));
    council("mem bers 1", fault(0, 0));
    council("members 1 0", fault(10, 0));
    council("  members   2  ;  point  1  2  ;  voices  1  2  ;  bent  1  2  ", 2);
  }

  /** "[ and not lie within one another 10 deep at most". */
  private static void depth() {
    for (int opened = 0; opened <= 11; opened++) {
      for (int nots = 0; opened + nots <= 11; nots++) {
        String begin = "yes if " + "[".repeat(opened) + "not ".repeat(nots);
        String text = begin + "1=1" + "]".repeat(opened);
        int last = nots > 0 ? begin.length() - 4 : begin.length() - 1;
        rule(text, opened + nots <= 10 ? 0 : fault(last, 2));
      }
    }
    rule("yes if " + "not [".repeat(5) + "1=1" + "]".repeat(5), 0);
    rule("yes if " + "not [".repeat(5) + "[1=1" + "]".repeat(6), fault(32, 2));
    rule("yes if " + "[not ".repeat(5) + "not 1=1" + "]".repeat(5), fault(32, 2));
    String ten = "[".repeat(10) + "1=1" + "]".repeat(10);
    rule("yes if " + ten + " and " + ten + " or not [1=1];no if " + ten, 0);
    rule("yes if [" + ten + "]", fault(17, 2));
    rule("yes if " + "[".repeat(9) + "not 1=1 and not 1=1 or [1=1]" + "]".repeat(9), 0);
    rule("yes if " + "[".repeat(9) + "not 1=1 and not not 1=1", fault(32, 2));
    rule("yes if " + "[".repeat(10) + "1=1" + "]".repeat(9), fault(29, 0));
    rule("yes if " + "[".repeat(10) + "1=1" + "]".repeat(11), fault(30, 0));
    // What is within them is reckoned all the same.
    holds("not ".repeat(10) + "1=1", 1, true);
    holds("not ".repeat(9) + "1=1", 1, false);
    holds("not [".repeat(5) + "1=1" + "]".repeat(5), 1, false);
    holds(ten + " and not " + ten.substring(1, ten.length() - 1), 1, false);
  }

  /** "at most 60 VALUES (of SUMS) and FACTS made of a SIGN, together". */
  private static void items() {
    String sixty = "yes if 1=1" + "+1".repeat(57);
    rule(sixty, 0);
    rule(sixty + "-1", fault(sixty.length() + 1, 3));
    rule(sixty + "* turn", fault(sixty.length() + 2, 3));
    rule(sixty + " or not [ 7<1]", fault(sixty.length() + 10, 3));
    rule(sixty + ";no;keep", 0);
    rule(sixty + ";no if turn>1", fault(sixty.length() + 7, 3));
    String facts = "yes if 1=1" + " or 1=1".repeat(19);
    rule(facts, 0);
    rule(facts + " and 1=1", fault(facts.length() + 5, 3));
    String values = "yes if 1" + "+1".repeat(58);
    rule(values + "=1", fault(values.length() + 1, 3));
    rule(values + " >= turn", fault(values.length() + 4, 3));
    String full = values + "+1";
    for (String sign : new String[] {"<", "<=", "=", ">=", ">"}) {
      rule(full + sign + "1", fault(full.length(), 3));
      rule(full + "  " + sign + "1", fault(full.length() + 2, 3));
    }
    // Not and brackets are none of these.
    rule("yes if " + "[".repeat(9) + "not 1=1" + "]".repeat(9) + " or 1=1".repeat(19), 0);
  }

  /** "Of one place the least." */
  private static void leastOfOnePlace() {
    String sixty = "yes if 1=1" + "+1".repeat(57);
    rule(sixty + "+000001", fault(sixty.length() + 1, 1));
    rule(sixty + "+wort", fault(sixty.length() + 1, 0));
    rule(sixty + "+", fault(sixty.length() + 1, 0));
    rule(sixty + "+;", fault(sixty.length() + 1, 0));
    String full = "yes if 1" + "+1".repeat(59);
    rule(full, fault(full.length(), 0));
    rule(full + ";", fault(full.length(), 0));
    rule(full + "]", fault(full.length(), 0));
    rule("yes if " + "[".repeat(10) + "nott 1=1", fault(17, 0));
    rule("yes if " + "[".repeat(10) + "(1=1)", fault(17, 0));
    String clauses = "yes" + ";no".repeat(11);
    rule(clauses, 0);
    for (String next : new String[] {"yes", "no", "keep"}) {
      rule(clauses + ";" + next, fault(clauses.length() + 1, 4));
      rule(clauses + "; " + next + " if", fault(clauses.length() + 2, 4));
      rule(clauses + ";" + next + "x", fault(clauses.length() + 1, 0));
    }
    rule(clauses + ";", fault(clauses.length() + 1, 0));
    rule(clauses + ";if", fault(clauses.length() + 1, 0));
    // The first along the text, not the least of all.
    rule("yes if 000000=x", fault(7, 1));
    rule("yes if x=000000", fault(7, 0));
    rule(clauses + ";no if 000000=x", fault(clauses.length() + 1, 4));
    council("members 2;point 100 x", fault(16, 1));
    council("members 11;members", fault(8, 1));
  }

  /** "/ is towards 0, 0 by 0; all goes round in 64 bits". */
  private static void reckoning() {
    holds("7/2=3", 1, true);
    holds("worth/2=0-3", -7, true);
    holds("7/worth=0-3", -2, true);
    holds("worth*3/2/worth=1", -3, true);
    holds("worth/2=0", -1, true);
    holds("5/0=0", 1, true);
    holds("0/0=0", 1, true);
    holds("worth/turn=0", -5, true);
    holds("5/0*3+1=1", 1, true);
    holds("2+3*4=14 and 20-6/3=18 and 2*3+4*5=26", 1, true);
    holds("100/7*7=98 and 100*7/7=100", 1, true);
    holds("9-3-2=4 and 9-3+2=8", 1, true);
    holds("65536*65536>0 and not 65536*65536=0", 1, true);
    holds("99999*99999-99998*99998=99999+99998", 1, true);
    String half = "32768*32768*32768*32768*8";
    holds(half + "<0", 1, true);
    holds(half + "-1>0", 1, true);
    holds(half + "-1+1<0", 1, true);
    holds("32768*32768*32768*32768*16=0", 1, true);
    holds(half + "/worth=" + half, -1, true);
    holds(half + "/worth<0", -1, true);
    holds("1<1", 1, false);
    holds("1<=1", 1, true);
    holds("1=1", 1, true);
    holds("1>=1", 1, true);
    holds("1>1", 1, false);
    holds("1<2", 1, true);
    holds("2<=1", 1, false);
    holds("2=1", 1, false);
    holds("1>=2", 1, false);
    holds("2>1", 1, true);
    holds("1=1 or 1=1 and 1=2", 1, true);
    holds("1=2 and 1=1 or 1=1", 1, true);
    holds("1=2 and [1=1 or 1=1]", 1, false);
    holds("not 1=2 or 1=1", 1, true);
    holds("not [1=2 or 1=1]", 1, false);
    holds("not 1=1 and 1=2", 1, false);
  }

  /** "sum (all PRESENT ones' voices), for, against (... above 0, below 0)", with all and with nobody. */
  private static void wordsAtEdges() {
    sees("sum=17 and for=9 and against=3");
    sees("sum=15 and for=7 and against=3", 0);
    sees("sum=16 and for=8 and against=3", 0, 0);
    sees("sum=14 and for=9 and against=0", 1);
    sees("sum=5 and for=0 and against=0", 0, 1, 3);
    sees("voices=5 and member=2 and worth=0 and point=1 and turn=0 and most=0 and left=0");
    VoicesLost ten = Calls.with("members 10" + ";point 1 1 1 1 1 1 1 1 1-1".repeat(12) + ";bent 9 0",
        "yes if member=9 and point=11 and turn=2 and sum=11 and for=9 and against=2");
    due("the tenth loses", ten.bench(511, 512), 1);
    due("turn is 1", ten.says(9, 11), 0);
    due("a bench is a turn", ten.bench(0, 0), 2);
    due("all as the rule says", ten.says(9, 11), 1);
    due("another point", ten.says(9, 10), 0);
    ten.bench(0, 0);
    due("turn is 3", ten.says(9, 11), 0);
  }

  /** MEMBER 2, with some who go (or, told again, come back) first. */
  private static void sees(String test, int... goers) {
    VoicesLost x = Calls.with("members 4;point 0 0 0 0;point 1 -1 0 1;voices 2 3 5 7;bent 2 0",
        "yes if " + test + ";no");
    for (int member : goers) {
      x.attends(member, x.voice(member, 2) == 0);
    }
    due("sees: " + test, x.says(2, 1), 1);
  }

  /** "most (... the greatest, either way, as if above 0; 0 without any), left (how many are behind it)". */
  private static void behindInOrder() {
    VoicesLost x = Calls.with("members 1;point 3;point -9;point 0;bent 0 0",
        "yes if left=7 and most=9 or left=6 and most=9 or left=5 and most=9 or left=4 and most=9;"
        + "yes if left=3 and most=3 or left=2 and most=3 or left=1 and most=0 or left=0 and most=0;no");
    Calls.order(x, 2, 1, 0, 0, 1, 2, 0, 2);
    due("behind each of eight", x.open(1, 0, 1), 8);
    due("with one voice each, too", x.open(1, 0, 3), 8);
    due("and really", x.day(), 8);
    due("by itself nothing is behind it", x.vote(1), 1);
    Calls.order(x, 1, 1);
    due("it is behind itself, but one is left", x.day(), 1);
    VoicesLost own = Calls.with("members 2;point 1 50;point 7 -60;bent 0 0", "no if most=7;yes if most=0;keep");
    Calls.order(own, 0, 1);
    // 0 sees his own 7 and says no to 1's yes; then yes to 1's no.
    due("his own worth alone", own.day(), 0);
    due("a no, then a yes", own.voice(0, 4), 2);
  }

  /** "the first CLAUSE without a TEST, or whose TEST holds; else... truly". */
  private static void clausesInTurn() {
    String[] rules = {"yes;no", "no;yes", "keep;yes", "yes if 1=2;no", "yes if 1=1;no", "keep if 1=2",
        "no if 1=2;keep if 2=3;yes if 1=1;no", "yes if 1=2;no if 1=2;keep if 1=2"};
    int[] said = {1, 0, 2, 0, 1, NONE, 1, NONE};
    int[] truly = {1, 2, 0};
    for (int i = 0; i < rules.length; i++) {
      VoicesLost x = Calls.with("members 1;point 1;point 0;point -1;bent 0 0", rules[i]);
      for (int point = 0; point < 3; point++) {
        due("says by " + rules[i], x.says(0, point), said[i] == NONE ? truly[point] : said[i]);
      }
    }
    VoicesLost last = Calls.with("members 1;point 1;bent 0 0", "keep if 1=2" + ";keep if 1=2".repeat(10) + ";no");
    due("the twelfth clause", last.says(0, 0), 0);
    due("a rule that is not told", Calls.with("members 1;point 1;bent 0 1", "no").says(0, 0), 1);
  }

  /** "The side with more voices wins... of two as strong sides (also without any voices) both lose." */
  private static void sidesOfVote() {
    VoicesLost x = Calls.with("members 4;voices 4 3 1 9");
    due("as strong", x.bench(1, 6), 2);
    Calls.dueVoices("both lose", x, 5, 4, 2, 9);
    for (int member = 0; member < 4; member++) {
      due("lost " + member, x.voice(member, 4), member < 3 ? 1 : 0);
      due("won " + member, x.voice(member, 3), 0);
    }
    due("one more", x.bench(1, 2), 1);
    Calls.dueVoices("he wins", x, 1, 5, 2, 9);
    due("one less", x.bench(1, 4), 0);
    Calls.dueVoices("he loses", x, 2, 5, 1, 9);
    due("without any voices", x.bench(0, 0), 2);
    Calls.dueVoices("nobody loses", x, 2, 5, 1, 9);
    due("nobody against", x.bench(8, 0), 1);
    due("nobody for", x.bench(0, 2), 0);
    Calls.dueVoices("winners alone", x, 2, 1, 1, 1);
    due("turn", x.count(5), 6);
    VoicesLost still = Calls.with("members 2;point 0 0;point 0 1;voices 6 2");
    due("all keep still", still.vote(0), 2);
    Calls.dueVoices("all keep still", still, 6, 2);
    due("one says yes", still.vote(1), 1);
    Calls.dueVoices("who keeps still keeps his", still, 6, 1);
    due("it is no loss", still.voice(0, 3) + still.voice(0, 4), 0);
  }

  /** An object of two MEMBERS with so many voices each, by ties under LAW DOUBLE and a CAP. */
  private static VoicesLost loud(int voices) {
    VoicesLost x = Calls.with("members 2;point 1 -1;voices 999 999");
    x.beside(1, voices);
    for (int i = 0; i < 4; i++) {
      due("a tie", x.vote(0), 2);
    }
    Calls.dueVoices("loud", x, voices, voices);
    return x;
  }

  /** PLAIN: "Winners have 1 voice then, losers 1 more (... 9999 at most)". */
  private static void plainLaw() {
    VoicesLost x = loud(9997);
    x.beside(0, 9999);
    int[] grown = {9998, 9999, 9999, 9999};
    for (int voices : grown) {
      due("ties", x.vote(0), 2);
      Calls.dueVoices("9999 at most", x, voices, voices);
    }
    due("to the winner one", x.bench(1, 0) * 10000 + x.voice(0, 0), 10001);
    due("9999 against one", x.vote(0), 0);
    Calls.dueVoices("the other way", x, 2, 1);
    VoicesLost ten = Calls.with("members 10;point 1 1 1 1 1-1-1-1-1-1;voices 999 999 999 999 999 999 999 999 999 999");
    ten.beside(1, 9999);
    for (int i = 0; i < 5; i++) {
      due("ten tie", ten.vote(0), 2);
    }
    due("ten have the most", ten.count(4), 99990);
  }

  /** "1 DOUBLE: losers have twice as many". */
  private static void doubleLaw() {
    int[][] rows = {{1, 2}, {2, 4}, {999, 1998}, {4999, 9998}, {5000, 9999}, {9999, 9999}};
    for (int[] row : rows) {
      VoicesLost x = loud(row[0]);
      x.beside(1, 9999);
      due("a tie", x.vote(0), 2);
      Calls.dueVoices("twice " + row[0], x, row[1], row[1]);
    }
    VoicesLost x = Calls.with("members 2;voices 3 8");
    x.beside(1, 9999);
    due("3 against 8", x.bench(1, 2), 0);
    Calls.dueVoices("winners have one", x, 6, 1);
  }

  /** "2 HALF: winners have half of what they had, downwards, 1 at least". */
  private static void halfLaw() {
    int[][] rows = {{1, 1}, {2, 1}, {3, 1}, {4, 2}, {5, 2}, {999, 499}};
    for (int[] row : rows) {
      VoicesLost x = Calls.with("members 2;voices " + row[0] + " 7");
      x.beside(2, 9999);
      due("alone", x.bench(1, 0), 1);
      Calls.dueVoices("half of " + row[0], x, row[1], 7);
    }
    VoicesLost most = loud(9999);
    most.beside(2, 9999);
    due("the loudest alone", most.bench(0, 2), 0);
    Calls.dueVoices("half of 9999", most, 9999, 4999);
    due("a loser has one more", most.bench(1, 2), 1);
    Calls.dueVoices("but 9999 at most", most, 4999, 5000);
    VoicesLost x = Calls.with("members 2;voices 3 3");
    x.beside(2, 9999);
    due("a tie", x.bench(1, 2), 2);
    Calls.dueVoices("both lose", x, 4, 4);
  }

  /** "nobody has more voices behind a VOTE in which he lost than this (who had more: just so many)". */
  private static void caps() {
    for (int law = 0; law <= 2; law++) {
      int[] before = {1, 2, 3, 4, 5, 9, 999};
      for (int voices : before) {
        VoicesLost x = Calls.with("members 3;voices " + voices + " " + voices + " 999");
        int grown = law == 1 ? 2 * voices : voices + 1;
        due("a cap of 4", x.beside(law, 4), 0);
        Calls.dueVoices("it changes nothing by itself", x, voices, voices, 999);
        due("a tie", x.bench(1, 2), 2);
        int due = Math.min(4, grown);
        Calls.dueVoices("law " + law + ", from " + voices, x, due, due, 999);
        due("the third wins", x.bench(4, 3), 1);
        due("a winner may have more", x.voice(2, 0), law == 2 ? 499 : 1);
      }
    }
    VoicesLost x = Calls.with("members 2;voices 5 1");
    x.beside(0, 1);
    due("a cap of 1", x.bench(2, 1), 0);
    Calls.dueVoices("one each", x, 1, 1);
    due("a tie at it", x.bench(2, 1), 2);
    Calls.dueVoices("one each again", x, 1, 1);
    VoicesLost order = Calls.with("members 2;point 1 -1;voices 6 6");
    order.beside(0, 3);
    order.order(0);
    due("in thought, too", order.rounds(0), 1);
    due("and in a year", order.year(3, 0, 2), 3);
  }

  /** FITS: "1 to a told most... by which all ENTRIES hold, one behind the other (voices growing by the LAW...)". */
  private static void booksByLaw() {
    // 2 against 5, and what they have then, by PLAIN, DOUBLE, HALF, and PLAIN with a cap of 2.
    int[][] rows = {{0, 9999, 3, 1}, {1, 9999, 4, 1}, {2, 9999, 3, 2}, {0, 2, 2, 1}, {1, 3, 3, 1}};
    for (int[] row : rows) {
      String law = "law " + row[0] + ", cap " + row[1];
      for (int off = -1; off <= 1; off++) {
        VoicesLost x = Calls.with("members 2;voices 9 9");
        x.attends(1, false);
        x.beside(row[0], row[1]);
        x.entry(1, 2, 2, 5);
        due(law + ": one fits", x.fits(5, 0, 0), 1);
        due(law + ": below five none", x.fits(4, 0, 0), 0);
        x.entry(1, 2, row[2] + off, row[3]);
        due(law + ": behind it, first off by " + off, x.fits(6, 0, 0), off == 0 ? 1 : 0);
        x.entry(NONE, 0, 0, 0);
        x.entry(1, 2, 2, 5);
        x.entry(1, 2, row[2], row[3] + off);
        due(law + ": behind it, second off by " + off, x.fits(6, 1, 0), off == 0 ? 1 : 0);
      }
    }
    VoicesLost tie = Calls.with("members 2");
    tie.entry(1, 2, 3, 3);
    tie.entry(1, 0, 4, 0);
    due("both have lost", tie.fits(6, 0, 0), 1);
    tie.entry(0, 2, 0, 4);
    due("the other, too", tie.fits(6, 0, 0), 1);
    VoicesLost still = Calls.with("members 2");
    still.entry(1, 0, 6, 0);
    still.entry(2, 1, 6, 1);
    due("who keeps still keeps his", still.fits(6, 1, 1), 6);
    due("the law as it is now", still.beside(2, 9999), 0);
    due("by half he had three", still.fits(6, 1, 1), -2);
  }

  /** "if all had 1 voice at each VOTE (and nothing grew)". */
  private static void oneVoiceEach() {
    VoicesLost x = Calls.with("members 3;point 2 -1 -1;point 1 -1 0;voices 999 1 1");
    Calls.order(x, 0);
    due("loud at first", x.open(1, 0, 1), 1);
    due("two against one, always", x.open(60, 0, 3), 0);
    Calls.order(x, 1);
    due("a tie, always", x.open(60, 0, 3), 0);
    Calls.order(x, 0, 0);
    // 999:2 through -> 1 2 2; 1:4 no -> 2 1 1; 2:2 both -> 3 2 2; 3:4 no -> 4 1 1.
    due("as it is", x.open(2, 0, 0), 2);
    due("less nothing", x.open(2, 0, 4), 2);
    due("of another", x.open(2, 1, 4), -1);
    Calls.dueVoices("nothing changes", x, 999, 1, 1);
    VoicesLost y = Calls.with("members 3;point -9 3 3;voices 9 1 1");
    Calls.order(y, 0);
    due("only with one voice each", y.open(1, 1, 0) * 10 + y.open(1, 1, 2), 3);
    due("so that it is less", y.open(1, 1, 4), -3);
    due("for the first more", y.open(1, 0, 4), 9);
  }

  /** "with turn as it is now at each (not growing)". */
  private static void roundsOfTurn() {
    VoicesLost x = Calls.with("members 1;point 1;bent 0 0", "yes if turn=0;yes if turn=2;no");
    Calls.order(x, 0, 0);
    due("now at each", x.rounds(2), 2);
    x.bench(0, 0);
    due("another now", x.rounds(2), 0);
    x.bench(0, 0);
    due("and another", x.rounds(2), 2);
    due("in open days it grows", x.open(1, 0, 1), 1);
  }
}
