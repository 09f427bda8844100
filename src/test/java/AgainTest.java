/**
 * One object, called again and again: nothing of an earlier text, question or IMAGE is left in a later
 * answer. And the long questions (THROWN, SPOILERS, SIDES, CHAIR) where each step of a DAY tells.
 */
public final class AgainTest {
  private static final int NONE = VoicesLost.NONE;

  private AgainTest() {
  }

  public static void main(String[] args) {
    textsAgain();
    faultsLeaveNothing();
    votesAgain();
    yearsAgain();
    questionsAgain();
    booksAgain();
    imagesApart();
    plansByTurn();
    plansOfEach();
    spoilersWays();
    sidesByTurn();
    sidesOfFour();
    chairRows();
    Calls.finish();
  }

  private static void due(String what, int got, int want) {
    Calls.due(what, got, want);
  }

  /** "once at most" and "at most 60" are of each text, not of all. */
  private static void textsAgain() {
    VoicesLost x = new VoicesLost();
    for (int i = 1; i <= 3; i++) {
      due("voices once in each", Calls.council(x, "members 2;voices " + i + " 9;point 1 " + i), 2);
      due("its own voices", x.voice(0, 0), i);
      due("one point each time", x.count(1), 1);
      due("its own worth", x.worth(1, 0), i);
    }
    String points = "members 1" + ";point 1".repeat(12);
    due("twelve points", Calls.council(x, points), 1);
    due("twelve points again", Calls.council(x, points), 1);
    due("twelve", x.count(1), 12);
    String sixty = "yes if 1=1" + "+1".repeat(57);
    for (int i = 0; i < 6; i++) {
      due("sixty in each", Calls.rule(x, sixty), i);
    }
    VoicesLost y = new VoicesLost();
    for (int i = 0; i < 6; i++) {
      due("a long rule, then a short one", Calls.rule(y, i % 2 == 0 ? "no if turn=7;keep if turn=8;yes" : "no"), i);
    }
    due("members", Calls.council(y, "members 2;point 1 1;bent 0 4;bent 1 5"), 2);
    due("by the long one", y.says(0, 0), 1);
    due("by the short one", y.says(1, 0), 0);
  }

  /** Of a text with a FAULT nothing comes into the next. */
  private static void faultsLeaveNothing() {
    VoicesLost x = new VoicesLost();
    due("a fault at its end", Calls.council(x, "members 3;point 4 5 6;voices 7 8 9;bent 0 1;x") <= -3 ? 1 : 0, 1);
    due("the next", Calls.council(x, "members 3;point 1 2 3"), 3);
    Calls.dueVoices("its voices", x, 1, 1, 1);
    due("no bent", x.voice(0, 1), NONE);
    due("one point", x.count(1), 1);
    due("its worth", x.worth(2, 0), 3);
    due("all are present", x.count(3), 3);
    due("more members, then a fault", Calls.council(x, "members 9;") <= -3 ? 1 : 0, 1);
    due("three present", x.count(3), 3);
    due("a fault within a rule", Calls.rule(x, "keep if [1=1 and 2=2 or 3=3") <= -3 ? 1 : 0, 1);
    due("the next rule", Calls.rule(x, "no if member=1"), 0);
    x.bend(0, 0);
    x.bend(1, 0);
    due("true for him", x.says(0, 0), 1);
    due("no for him", x.says(1, 0), 0);
  }

  /** What a RULE sees of voices is as it is at each VOTE. */
  private static void votesAgain() {
    VoicesLost x = Calls.with("members 2;point 1 1;point 1 -1;bent 0 0", "yes if sum=2;no if sum=3;keep");
    due("sum 2", x.says(0, 0), 1);
    due("a tie would be 4", x.vote(1), 2);
    due("sum 4", x.says(0, 0), 2);
    due("one wins", x.bench(2, 0), 1);
    due("sum 3, a no of two voices", x.vote(0), 0);
    Calls.dueVoices("sum 3 again", x, 1, 2);
    due("a no again", x.says(0, 0), 0);
    VoicesLost day = Calls.with("members 2;point 1 -1;bent 0 0", "yes if sum=2;no if sum=4;keep");
    Calls.order(day, 0, 0, 0);
    // A tie (2 2), then no by both (1 1), then a tie again.
    due("sum in a day", day.day(), 0);
    Calls.dueVoices("sum in a day", day, 2, 2);
    VoicesLost open = Calls.with("members 2;point 1 -1;bent 0 0", "yes if for=1;no if against=2;keep");
    Calls.order(open, 0);
    due("for and against in thought", open.open(4, 0, 1), 0);
    due("a round of two", open.rounds(1), 2);
    due("the first wins one in it", open.rounds(3), 1);
    due("the second, too", open.rounds(4), 1);
    VoicesLost own = Calls.with("members 3;point 1 1 1;point 9 0-4;bent 2 0;bent 1 0", "yes if most=4;keep if most=0;no");
    Calls.order(own, 0, 1);
    // 2 sees 4 of his own, 1 sees 0 and keeps still; then both see nothing and keep still.
    due("each his own most", own.day(), 2);
    due("he won the first", own.voice(2, 3), 1);
    due("he kept still", own.voice(1, 3) + own.voice(1, 4), 0);
  }

  /** A YEAR sees its own voices, and its greatest are those of this one alone. */
  private static void yearsAgain() {
    VoicesLost x = Calls.with("members 2;point 1 -1;bent 0 0", "yes if voices=1;no if sum=4");
    // A tie (2 2), no by both (1 1), a tie (2 2), and so on.
    for (int n = 1; n <= 6; n++) {
      due("voices in a year of " + n, x.year(n, 0, 2), 2);
      due("through in a year of " + n, x.year(n, 0, 1), 0);
    }
    Calls.order(x, 0);
    due("a round between", x.rounds(1), 2);
    due("a year behind it", x.year(2, 0, 2), 2);
    VoicesLost loud = Calls.with("members 2;point 1 -1;voices 50 50");
    due("a loud year", loud.year(9, 0, 2), 59);
    due("a shorter one", loud.year(1, 0, 2), 51);
    loud.bench(3, 0);
    due("a quiet one", loud.year(1, 0, 2), 2);
    VoicesLost rule = Calls.with("members 1;point 1;voices 3;bent 0 0", "yes if voices=1;no if voices=3;keep");
    Calls.order(rule, 0);
    due("a day in thought", rule.open(1, 0, 1), 0);
    due("two, the second through", rule.year(2, 0, 1), 1);
    VoicesLost ten = Calls.with("members 10;point 1 1 1 1 1 1 1 1 1-1;bent 9 0", "no if sum<=10+turn");
    // The tenth loses each time, and the sum is one more each time.
    due("ten members", ten.year(8, 9, 2), 9);
    due("the tenth is as strong as nine", ten.year(9, 9, 2), 10);
    due("eight through, the ninth is a tie", ten.year(9, 9, 0), -8);
    due("not the first", rule.year(1, 0, 1), 0);
  }

  /** The same question has the same answer, whatever was asked between. */
  private static void questionsAgain() {
    VoicesLost x = Calls.with("members 4;point 3 -1 -2 1;point -1 2 2 -2;point 1 1 -5 0;bent 3 0", "no if left>1;yes");
    Calls.order(x, 0, 1, 2);
    int[] first = new int[24];
    for (int round = 0; round < 3; round++) {
      int at = 0;
      int[] now = new int[first.length];
      for (int what = 0; what < 7; what++) {
        now[at++] = x.rounds(what);
      }
      now[at++] = x.lose(5);
      now[at++] = x.lose(7);
      now[at++] = x.lose(8);
      now[at++] = x.plan(7, 1, 2);
      now[at++] = x.plan(5, 0, 2);
      now[at++] = x.spoilers(8);
      now[at++] = x.spoilers(3);
      now[at++] = x.sides(1, 2, 0);
      now[at++] = x.sides(3, 12, 1);
      now[at++] = x.chair(0, true, 2);
      now[at++] = x.chair(2, false, 0);
      now[at++] = x.open(9, 3, 4);
      now[at++] = x.open(9, 3, 1);
      now[at++] = x.year(44, 1, 0);
      now[at++] = x.fits(3, 1, 0);
      now[at++] = x.tells(4, 1);
      now[at++] = x.tells(2, 0);
      for (int i = 0; i < at; i++) {
        if (round == 0) {
          first[i] = now[i];
        }
        due("question " + i + " again", now[i], first[i]);
      }
    }
    due("nothing has changed", x.count(5), 0);
  }

  /** FITS and TELLS of one most behind those of another; sums far above those of the begin. */
  private static void booksAgain() {
    VoicesLost x = Calls.with("members 2");
    int[] mosts = {6, 2, 5, 1, 4};
    for (int most : mosts) {
      due("all fit", x.fits(most, 0, 0), most * most);
      due("the greatest", x.fits(most, 1, 2), most);
      due("the least", x.fits(most, 1, 1), 1);
      due("the number", x.tells(most, 1), most);
    }
    VoicesLost loud = Calls.with("members 5");
    loud.beside(1, 9999);
    for (int i = 0; i < 12; i++) {
      int voices = Math.min(9999, 6 << i);
      due("a tie", loud.entry(1, 2, voices, voices), i + 1);
    }
    // 0 and 1 have 9999 each; of the sums of three dice two have 27 of 216.
    due("those who fit", loud.fits(6, 2, 0), 216);
    due("three of them tell most", loud.tells(6, 0), 28);
    due("27 with one sum", loud.tells(6, 1), 27);
    loud.entry(NONE, 0, 0, 0);
    due("behind that the five", loud.tells(2, 0) * 100 + loud.tells(2, 1), 3100 + 10);
    loud.entry(1, 0, 3, 0);
    due("one is known", loud.fits(4, 0, 1) * 1000 + loud.fits(4, 1, 0), 3256);
  }

  /** IMAGES keep ORDER and ENTRIES, too, each its own. */
  private static void imagesApart() {
    VoicesLost x = Calls.with("members 2;point 1 1;point 2 2;point 3 3");
    Calls.order(x, 2, 1, 0);
    x.entry(1, 2, 2, 5);
    x.bend(1, 3);
    due("the one", x.image(3), 0);
    Calls.order(x, 1, 2, 2);
    x.entry(NONE, 0, 0, 0);
    x.entry(1, 2, 6, 6);
    x.entry(1, 2, 7, 7);
    x.attends(0, false);
    due("the other", x.image(0), 0);
    x.order(NONE);
    x.entry(NONE, 0, 0, 0);
    due("back to the one", x.back(3), 0);
    due("its order", x.ordered(0) * 100 + x.ordered(1) * 10 + x.ordered(2), 210);
    due("its book", x.fits(6, 0, 1) * 10 + x.fits(6, 1, 1), 25);
    due("all present", x.count(3), 2);
    due("a bent", x.voice(1, 1), 3);
    x.order(1);
    x.entry(1, 2, 9, 9);
    due("back to the other", x.back(0), 0);
    due("its order", x.ordered(0) * 100 + x.ordered(1) * 10 + x.ordered(2), 122);
    due("its length", x.count(6), 3);
    due("its book", x.fits(6, 0, 1) * 10 + x.fits(6, 1, 1), 66);
    due("its entries", x.count(7), 2);
    due("one present", x.count(3), 1);
    due("back to the one again", x.back(3), 0);
    due("its length", x.count(6), 3);
    due("its entries", x.count(7), 1);
  }

  /** THROWN: turn is one more at each place; a PLAN may be a no of a MEMBER of any number. */
  private static void plansByTurn() {
    VoicesLost x = Calls.with("members 2;point 1 1;bent 1 0", "yes if turn=1;no");
    Calls.order(x, 0, 0);
    due("he says yes at the second", x.lose(1), 0);
    due("the other can spoil it", x.spoilers(1), 2);
    x.bench(0, 0);
    due("turn 1 is the first now", x.lose(1), -2);
    VoicesLost no = Calls.with("members 2;point -3 5;point 6 -2;voices 1 2;bent 0 0", "yes if left>0");
    no.beside(1, 50);
    Calls.order(no, 0, 1, 0);
    due("one thrown", no.lose(2), 1);
    due("a no at first", no.plan(2, 0, 1), 0);
    due("a true no then", no.plan(2, 1, 1), 0);
    due("a yes at last", no.plan(2, 2, 1), 1);
    VoicesLost three = Calls.with("members 3;point 1 1 0;bent 1 0", "yes if turn=1;no");
    Calls.order(three, 0, 0);
    // At the second 0 and 1 say yes, and have three or four voices between them against one.
    due("the third can't spoil it", three.spoilers(1), 2);
  }

  /** THROWN: each of ten MEMBERS keeps still at first, though yes were true, to keep his five voices. */
  private static void plansOfEach() {
    for (int member = 0; member < 10; member++) {
      int other = (member + 1) % 10;
      StringBuilder text = new StringBuilder("members 10;point");
      for (int i = 0; i < 10; i++) {
        text.append(i == member ? " 1" : " 0");
      }
      text.append(";point");
      for (int i = 0; i < 10; i++) {
        text.append(i == member ? " 2" : i == other ? " -2" : " 0");
      }
      text.append(";voices");
      for (int i = 0; i < 10; i++) {
        text.append(i == member ? " 5" : i == other ? " 3" : " 1");
      }
      VoicesLost x = Calls.with(text.toString());
      Calls.order(x, 0, 1);
      int faction = 1 << member;
      due("one vote thrown by " + member, x.lose(faction), 1);
      due("he keeps still: " + member, x.plan(faction, 0, member), 2);
      due("then yes: " + member, x.plan(faction, 1, member), 1);
      due("nobody has five against him: " + member, x.spoilers(faction), 0);
      due("the other gives up one no", x.lose(1 << other), 1);
      due("not at first", x.plan(1 << other, 0, other), 2);
      due("at last", x.plan(1 << other, 1, other), 1);
    }
  }

  /** SPOILERS by a yes, by a no, by keeping still ahead of the last POINT. */
  private static void spoilersWays() {
    VoicesLost yes = Calls.with("members 4;point -1 0 -1 0;point 1 0 0 1");
    Calls.order(yes, 0, 1);
    // 1 says yes at first, loses, and has two voices against two; 3 has but to say no at last.
    due("truly", yes.lose(1), 0);
    due("by a yes", yes.spoilers(1), 2 + 8);
    VoicesLost no = Calls.with("members 4;point 1 0 1 0;point 1 0 0 1");
    Calls.order(no, 0, 1);
    due("by a no", no.spoilers(1), 2 + 8);
    VoicesLost still = Calls.with("members 4;point -1 0 1 0;point 1 0 0 1;voices 1 5 1 1");
    Calls.order(still, 0, 1);
    // 1 wins whatever he says at first, and has one voice then; still he keeps five.
    due("truly", still.lose(1), 0);
    due("by keeping still", still.spoilers(1), 2 + 8);
    VoicesLost none = Calls.with("members 4;point -1 0 1 0;point 1 0 0 1;voices 1 2 1 1");
    Calls.order(none, 0, 1);
    due("two are too few", none.spoilers(1), 8);
  }

  /** SIDES: turn is one more at each place, and those of neither side say as always there. */
  private static void sidesByTurn() {
    VoicesLost x = Calls.with("members 3;point 4 -1 0;bent 2 0", "yes if turn=1;no");
    Calls.order(x, 0, 0);
    // At the second 2 says yes. 0 loses the first by a yes, or keeps still; by a no 1 would lose it.
    due("through at the second", x.sides(1, 2, 0), 5);
    due("a yes at first", x.sides(1, 2, 1), 1);
    VoicesLost both = Calls.with("members 3;point 4 1 0;voices 1 1 500;bent 2 0", "yes");
    both.beside(2, 9999);
    for (int places = 1; places <= 4; places++) {
      both.order(0);
      due("through at each of " + places, both.sides(1, 2, 0), 3 * places);
      due("the other way round", both.sides(2, 1, 0), -3 * places);
      due("whatever they say", both.sides(2, 1, 1), 1);
    }
  }

  /** SIDES: the fourth POINT counts, and what is said at the first is for its sake. */
  private static void sidesOfFour() {
    VoicesLost x = Calls.with("members 2;point 7 0;point 0 0;voices 50 1");
    Calls.order(x, 1, 1, 1, 0);
    // Who wins one of the first three has one voice at last, and the other one as many at least.
    due("all for the last", x.sides(1, 2, 0), 7);
    due("so he keeps still", x.sides(1, 2, 1), 2);
    Calls.order(x, 0);
    due("at once", x.sides(1, 2, 0), 7);
    due("by a yes", x.sides(1, 2, 1), 1);
    VoicesLost lost = Calls.with("members 3;point 0 0 0;point 0 3 0;voices 1 2 9;bent 2 0", "no if left=1");
    Calls.order(lost, 0, 1);
    // Both lose the first on purpose, by a yes against nine: two voices against three at the second.
    due("a yes to lose", lost.sides(1, 2, 0), -3);
    due("nothing helps", lost.sides(1, 2, 1), 1);
    due("the other way round", lost.sides(2, 1, 0), 3);
    due("by a yes, too", lost.sides(2, 1, 1), 1);
  }

  /** CHAIR: each order of the POINTS is looked at, the lesser ahead. */
  private static void chairRows() {
    int[] points = {0, 1, 2, 3};
    int count = 0;
    for (int a : points) {
      for (int b : points) {
        for (int c : points) {
          int d = 6 - a - b - c;
          if (a != b && a != c && b != c) {
            count++;
            chairRow(new int[] {a, b, c, d});
          }
        }
      }
    }
    due("24 rows", count, 24);
    chairRow(new int[] {0, 1, 2, 3, 4, 5});
    chairRow(new int[] {5, 4, 3, 2, 1, 0});
    chairRow(new int[] {5, 0, 4, 1, 3, 2});
    chairRow(new int[] {2, 5, 1, 0, 4, 3});
    chairRow(new int[] {3, 3, 0, 3, 1, 1});
    chairRow(new int[] {1, 0, 0});
    chairRow(new int[] {0, 1, 0});
    chairRow(new int[] {11});
  }

  /** A RULE that says yes at each place to one POINT alone: only this row gives all. */
  private static void chairRow(int[] row) {
    StringBuilder rule = new StringBuilder();
    StringBuilder name = new StringBuilder("row");
    for (int i = 0; i < row.length; i++) {
      rule.append(i == 0 ? "yes if " : " or ").append("turn=").append(i).append(" and point=").append(row[i]);
      name.append(' ').append(row[i]);
    }
    VoicesLost x = Calls.with("members 1" + ";point 2".repeat(12) + ";bent 0 0", rule.append(";no").toString());
    for (int i = 0; i < row.length; i++) {
      // Not in this order: its end first.
      x.order(row[row.length - 1 - i]);
    }
    due(name + ": gain", x.chair(0, true, 0), 2 * row.length);
    for (int i = 0; i < row.length; i++) {
      due(name + ": place " + i, x.chair(0, true, i + 1), row[i]);
    }
  }
}
