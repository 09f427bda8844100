/** Each promise by itself: ordinary calls, the edges that the document names, wrong arguments. */
public final class PromisesTest {
  private static final int NONE = VoicesLost.NONE;
  private static final int NO_GAIN = -1000000;
  private static final String THREE = "members 3;point +5 -3 -4;point -2 +6 +1;point 9 -9 -9";

  private PromisesTest() {
  }

  public static void main(String[] args) {
    texts();
    members();
    laws();
    votes();
    words();
    days();
    openDays();
    thrown();
    bothSides();
    chairman();
    roundsOfDays();
    booksOfSums();
    telling();
    years();
    counts();
    images();
    withoutCouncil();
    Calls.finish();
  }

  private static void due(String what, int got, int want) {
    Calls.due(what, got, want);
  }

  /** Promises 1 to 5. */
  private static void texts() {
    VoicesLost x = new VoicesLost();
    for (int what = 0; what < 12; what++) {
      due("new: count " + what, x.count(what), 0);
    }
    Calls.dueStatus("new", x, 0, 0);
    due("end of nothing", x.end(0), 0);
    due("end beyond", x.end(1), NONE);
    for (int i = 1; i <= 20; i++) {
      due("feed " + i, x.feed(0x6D656D62, 0x65727320, 0x37202020, 0x20202020, 0x20202020), 20 * i);
    }
    due("feed full", x.feed(0, 0, 0, 0, 0), NONE);
    due("end below", x.end(-1), NONE);
    due("end beyond the tape", x.end(401), NONE);
    due("tape", x.count(9), 400);
    due("end", x.end(381), 381);
    due("feed would be too much", x.feed(0, 0, 0, 0, 0), NONE);
    due("bytes in their order", x.end(20) * 10 + x.council(), 207);
    due("tape behind a council", x.count(9), 0);
    due("seed", x.seed(77), 0);
    due("next council", Calls.council(x, "members 2;point 1 1;voices 3 4;bent 1 0"), 2);
    Calls.order(x, 0, 0);
    due("entry", x.entry(1, 2, 1, 1), 1);
    due("beside", x.beside(1, 50), 0);
    due("vote", x.vote(0), 1);
    due("council in its place", Calls.council(x, THREE), 3);
    int[] fresh = {3, 3, 0, 3, 3, 0, 0, 0, 77, 0, 0, 9999};
    for (int what = 0; what < 12; what++) {
      due("fresh: count " + what, x.count(what), fresh[what]);
    }
    due("fresh: bent", x.voice(1, 1), NONE);
    due("fresh: won", x.voice(0, 3), 0);
    for (int i = 0; i < 6; i++) {
      due("rule " + i, Calls.rule(x, "no"), i);
      due("tape behind a rule", x.count(9), 0);
    }
    due("a seventh", Calls.rule(x, "no"), NONE);
    due("its tape stays", x.count(9), 2);
    due("a seventh with a fault", Calls.rule(x, "nono"), NONE);
    Calls.dueStatus("texts", x, 0, 0);
  }

  /** Promises 6 to 9. */
  private static void members() {
    VoicesLost x = Calls.with("members 3;point 1 -2 3;voices 7 8 9;bent 2 4");
    Calls.dueVoices("told", x, 7, 8, 9);
    due("bent", x.voice(2, 1), 4);
    due("there", x.voice(2, 2), 1);
    due("no member", x.voice(3, 0), NONE);
    due("no member below", x.voice(-1, 0), NONE);
    due("no such", x.voice(0, 5), NONE);
    due("no such below", x.voice(0, -1), NONE);
    due("worth", x.worth(1, 0), -2);
    due("worth of none", x.worth(3, 0), -1000);
    due("worth of no point", x.worth(0, 1), -1000);
    due("worth below", x.worth(-1, -1), -1000);
    due("bend", x.bend(2, NONE), 4);
    due("bend again", x.bend(2, 5), NONE);
    due("bend to a rule not told", x.voice(2, 1), 5);
    due("bend too far", x.bend(2, 6), -2);
    due("bend too low", x.bend(2, -2), -2);
    due("bend nobody", x.bend(3, 0), -2);
    due("still bent", x.voice(2, 1), 5);
    Calls.dueStatus("bend", x, 3, 0);
    due("comes, but is there", x.attends(0, true), -2);
    due("goes", x.attends(1, false), 2);
    due("goes again", x.attends(1, false), -2);
    due("nobody goes", x.attends(3, false), -2);
    due("not there", x.voice(1, 2), 0);
    Calls.dueVoices("one has gone", x, 7, 1, 9);
    due("voices of those there", x.count(4), 16);
    due("comes", x.attends(1, true), 3);
    Calls.dueVoices("one has come", x, 7, 1, 9);
    Calls.dueStatus("attends", x, 6, 0);
  }

  /** Promise 10, and what the LAWS do. */
  private static void laws() {
    VoicesLost x = Calls.with("members 2;point 1 -1;voices 9 4");
    due("law too far", x.beside(3, 5), -2);
    due("law too low", x.beside(-1, 5), -2);
    due("cap too low", x.beside(0, 0), -2);
    due("cap too far", x.beside(0, 10000), -2);
    Calls.dueStatus("beside", x, 4, 0);
    due("half", x.beside(2, 9999), 0);
    due("vote by half", x.vote(0), 1);
    Calls.dueVoices("half", x, 4, 5);
    due("vote by half again", x.vote(0), 0);
    Calls.dueVoices("half again", x, 5, 2);
    due("the other wins", x.bench(2, 0), 1);
    due("and again", x.bench(2, 0), 1);
    Calls.dueVoices("one at least", x, 5, 1);
    due("double", x.beside(1, 9999), 2);
    due("vote by double", x.bench(2, 1), 0);
    Calls.dueVoices("double", x, 1, 2);
    for (int i = 0; i < 13; i++) {
      due("both lose by nobody", x.bench(0, 0), 2);
      due("who wins alone", x.bench(1, 0), 1);
    }
    due("double with a cap", x.beside(1, 3), 1);
    due("tie of one and two is none", x.vote(0), 0);
    Calls.dueVoices("double below the cap", x, 2, 1);
    due("lost alone", x.vote(0), 1);
    Calls.dueVoices("won", x, 1, 2);
    x = Calls.with("members 2;point 1 -1;voices 999 999");
    x.beside(0, 7);
    due("a tie", x.vote(0), 2);
    Calls.dueVoices("down to the cap", x, 7, 7);
    x.beside(2, 3);
    x.bench(0, 2);
    Calls.dueVoices("the cap is for losers alone", x, 7, 3);
    x = Calls.with("members 2;point 1 -1;voices 999 999");
    x.beside(1, 9999);
    for (int i = 0; i < 5; i++) {
      due("ties", x.vote(0), 2);
    }
    Calls.dueVoices("9999 at most", x, 9999, 9999);
    x.beside(0, 9999);
    due("one more tie", x.vote(0), 2);
    Calls.dueVoices("no more than 9999", x, 9999, 9999);
  }

  /** Promises 11 to 13. */
  private static void votes() {
    VoicesLost x = Calls.with(THREE + ";bent 2 1", "yes");
    due("true yes", x.says(0, 0), 1);
    due("true no", x.says(1, 0), 0);
    due("bent, but not told", x.says(2, 0), 0);
    due("no point", x.vote(3), -2);
    due("no point below", x.vote(-1), -2);
    Calls.dueStatus("vote", x, 2, 0);
    due("one against two", x.vote(0), 0);
    Calls.dueVoices("lost once", x, 2, 1, 1);
    due("two against two", x.vote(0), 2);
    Calls.dueVoices("both lost", x, 3, 2, 2);
    due("three against four", x.vote(0), 0);
    Calls.dueVoices("lost again", x, 4, 1, 1);
    due("four against two", x.vote(0), 1);
    Calls.dueVoices("through", x, 1, 2, 2);
    int[] scores = {1, 3, 2, 2, 2, 2};
    for (int i = 0; i < 6; i++) {
      due("score " + i, x.voice(i / 2, 3 + i % 2), scores[i]);
    }
    due("turn", x.count(5), 4);
    due("rule told", Calls.rule(x, "no if worth=1;keep if 1=2"), 1);
    due("bent and told", x.says(2, 1), 0);
    due("no clause holds", x.says(2, 2), 0);
    due("says nobody", x.says(3, 0), NONE);
    due("says to nothing", x.says(0, 3), NONE);
    x.attends(0, false);
    due("not there", x.says(0, 0), NONE);
    due("bench", x.bench(1 + 2, 4), 2);
    Calls.dueVoices("who isn't there keeps still", x, 1, 3, 3);
    due("scores as they were", x.voice(0, 3) * 10 + x.voice(0, 4), 13);
    due("in both", x.bench(3, 2), -2);
    due("beyond", x.bench(8, 0), -2);
    due("below", x.bench(0, -1), -2);
    Calls.dueStatus("bench", x, 5, 0);
    due("nobody votes", x.bench(0, 0), 2);
    due("turn of bench", x.count(5), 6);
    VoicesLost still = Calls.with("members 2;point 0 0;point 0 -1");
    due("all keep still", still.vote(0), 2);
    due("one no", still.vote(1), 0);
    due("who kept still", still.voice(0, 3) + still.voice(0, 4), 0);
    due("says still", still.says(0, 0), 2);
  }

  /** The WORDS of RULES, and how these are reckoned. */
  private static void words() {
    VoicesLost x = Calls.with("members 4;point 5 -3 0 7;point -2 9 1 1;voices 2 3 4 8;bent 0 0");
    String[] facts = {
      "member=0", "point=1", "worth+2=0", "voices=2", "sum=9", "for=7", "against=2",
      "most=0", "left=0", "turn=0", "1+2*3=7", "9-4-3=2", "8/2/2=2", "0-7/2+3=0", "5/0=0",
      "0-7<0-6", "2<=2", "2>=2", "not 2>2", "not 2<2", "not not 1=1", "1=1 or 1=1 and 1=2",
      "[1=1 or 1=1] and 1=1", "not [1=1 and 1=2]", "1=2 or 1=2 or 1=1", "not 1=2 and 1=1",
      "99999*99999*99999*99999*2<0",
    };
    x.attends(3, false);
    for (int i = 0; i < facts.length; i++) {
      VoicesLost y = Calls.with("members 4;point 5 -3 0 7;point -2 9 1 1;voices 2 3 4 8;bent 0 0",
          "keep if not [" + facts[i] + "];yes");
      y.attends(3, false);
      due("holds: " + facts[i], y.says(0, 1), 1);
    }
    String[] others = {"1=2", "not 1=1", "1=1 and 1=2", "[1=2 or 1=1] and 1=2", "worth=1 or 1>2"};
    for (int i = 0; i < others.length; i++) {
      VoicesLost y = Calls.with("members 1;point -1;bent 0 0", "yes if " + others[i]);
      due("does not hold: " + others[i], y.says(0, 0), 0);
    }
    VoicesLost first = Calls.with("members 1;point 1;bent 0 0", "no if turn=1;keep if turn<3;no");
    due("turn 0", first.vote(0), 2);
    due("turn 1", first.vote(0), 0);
    due("turn 2", first.says(0, 0), 2);
    first.bench(0, 0);
    due("turn 3", first.says(0, 0), 0);
  }

  /** Promises 14 to 16. */
  private static void days() {
    VoicesLost x = Calls.with(THREE);
    due("a day of nothing", x.day(), 0);
    due("no point", x.order(3), -2);
    due("no point below", x.order(-2), -2);
    for (int i = 0; i < 8; i++) {
      due("order", x.order(i % 3), i + 1);
    }
    due("full", x.order(0), -2);
    Calls.dueStatus("full", x, 2, 1);
    due("full and no point", x.order(9), -2);
    Calls.dueStatus("order", x, 3, 1);
    due("ordered", x.ordered(7), 1);
    due("ordered beyond", x.ordered(8), NONE);
    due("ordered below", x.ordered(-1), NONE);
    due("empty", x.order(NONE), 0);
    due("ordered of none", x.ordered(0), NONE);
    Calls.order(x, 0, 1, 0);
    // 1:2 no -> 2 1 1; point 1: 2 no against 2 yes, both lose -> 3 2 2; 3:4 no -> 4 1 1
    due("a day", x.day(), 0);
    Calls.dueVoices("a day", x, 4, 1, 1);
    due("its turn", x.count(5), 3);
    due("four against two", x.order(0), 4);
    // 4:2 yes -> 1 2 2; 1:4 yes -> 2 1 1; 2:2 both -> 3 2 2; 3:4 no -> 4 1 1
    due("a second day", x.day(), 2);
    Calls.dueVoices("a second day", x, 4, 1, 1);
    VoicesLost y = Calls.with("members 2;point 1 1;point -9 2;point 4 3;bent 0 0;bent 1 0",
        "no if most=9 and left=2;keep if most=4 and left=1;no if left=0 and most=0 and turn=2");
    Calls.order(y, 0, 1, 2);
    // At 0: 0 says no (most 9), 1 truly yes (most 3): as strong. At 1: 0 keeps still, 1 says yes
    // and wins. At 2 both say no.
    due("what is behind", y.day(), 1);
    due("by itself", y.says(0, 2), 1);
    due("second won", y.voice(1, 3), 2);
    due("first won", y.voice(0, 3), 1);
    due("first lost", y.voice(0, 4), 1);
  }

  /** Promise 17. */
  private static void openDays() {
    VoicesLost x = Calls.with(THREE);
    Calls.order(x, 0);
    // Voices of point 0: no, tie, no, yes, then 1 2 2: no -> 2 1 1, and round again.
    due("four days", x.open(4, 0, 0), 5);
    due("four days of another", x.open(4, 1, 0), -3);
    due("through", x.open(4, 0, 1), 1);
    due("three days", x.open(3, 0, 0), 0);
    due("eight days", x.open(8, 2, 0), -8);
    due("one voice each", x.open(8, 0, 2), 0);
    due("one voice each: through", x.open(8, 0, 3), 0);
    due("even", x.open(8, 0, 4), 10);
    due("no days", x.open(0, 0, 0), 0);
    due("most days", x.open(60, 0, 1), 15);
    due("too many days", x.open(61, 0, 0), NO_GAIN);
    due("too few days", x.open(-1, 0, 0), NO_GAIN);
    due("nobody's", x.open(1, 3, 0), NO_GAIN);
    due("no such", x.open(1, 0, 5), NO_GAIN);
    due("no such below", x.open(1, 0, -1), NO_GAIN);
    Calls.dueVoices("nothing has changed", x, 1, 1, 1);
    due("no turn", x.count(5), 0);
    Calls.dueStatus("open", x, 0, 0);
    VoicesLost y = Calls.with("members 2;point 3 -3;voices 5 1;bent 0 0;bent 1 1",
        "keep if voices>1;yes", "keep if turn<4");
    Calls.order(y, 0);
    due("who has many keeps still", y.open(4, 0, 1), 0);
    due("one voice in rules, too", y.open(6, 0, 2), 12);
    due("turn goes on", y.open(6, 0, 3), 4);
  }

  /** Promises 18 to 20. */
  private static void thrown() {
    VoicesLost x = Calls.with(THREE);
    Calls.order(x, 0, 1, 0);
    // At last 0 has three voices against four (truly: 2 1 1, 3 2 2), or two against two.
    due("one alone can't", x.lose(1), -2);
    due("no plan", x.plan(1, 0, 0), -2);
    due("no spoilers", x.spoilers(1), -2);
    Calls.order(x, 0, 0, 0, 0);
    due("truly", x.lose(1), 0);
    for (int place = 0; place < 4; place++) {
      due("says truly", x.plan(1, place, 0), 1);
    }
    due("who can spoil", x.spoilers(1), 6);
    Calls.order(x, 0, 1);
    // Truly it is 2 1 1 behind point 0, and two against two at point 1. If 1 says yes at point
    // 0, that is through: 1 1 2; then three are against one, as long as 2 goes along.
    due("one vote thrown", x.lose(2), 1);
    due("first at 0", x.plan(2, 0, 1), 1);
    due("then at 1", x.plan(2, 1, 1), 1);
    due("spoilers of it", x.spoilers(2), 4);
    due("together", x.lose(3), 1);
    due("together at 0 the first", x.plan(3, 0, 0), 1);
    due("together at 0 the second", x.plan(3, 0, 1), 1);
    due("together at 1 the first", x.plan(3, 1, 0), 0);
    due("together at 1 the second", x.plan(3, 1, 1), 1);
    due("all three", x.lose(7), 1);
    due("none is left to spoil", x.spoilers(7), 0);
    thrownWrong(x);
  }

  private static void thrownWrong(VoicesLost x) {
    int[] bad = {0, 8, -1, 15};
    for (int faction : bad) {
      due("no faction " + faction, x.lose(faction), NONE);
      due("no plan of " + faction, x.plan(faction, 0, 0), NONE);
      due("no spoilers of " + faction, x.spoilers(faction), NONE);
    }
    due("no place", x.plan(2, 2, 1), NONE);
    due("no place below", x.plan(2, -1, 1), NONE);
    due("not of the faction", x.plan(2, 0, 0), NONE);
    due("no member", x.plan(2, 0, 3), NONE);
    x.attends(1, false);
    due("not there", x.lose(2), NONE);
    Calls.order(x);
    due("no order", x.lose(1), NONE);
    Calls.order(x, 0, 0, 0, 0, 0);
    due("too long", x.lose(1), NONE);
    due("too long to spoil", x.spoilers(1), NONE);
    due("nothing has changed", x.count(5), 0);
    VoicesLost four = Calls.with("members 4;point 1 1 1 1");
    Calls.order(four, 0);
    due("four are too many", four.lose(15), NONE);
    due("three are not", four.lose(7), 0);
    due("one can't spoil", four.spoilers(7), 0);
    VoicesLost bent = Calls.with("members 2;point 2 0;bent 0 0", "no");
    Calls.order(bent, 0);
    due("a faction is not bent", bent.lose(1), 0);
    due("others are", bent.lose(2), -2);
    VoicesLost still = Calls.with("members 2;point 1 0;voices 1 2");
    Calls.order(still, 0);
    due("to keep still is true", still.lose(2), 0);
    due("as the plan says", still.plan(2, 0, 1), 2);
    due("the other spoils it", still.spoilers(2), 1);
  }

  /** Promise 21. */
  private static void bothSides() {
    VoicesLost x = Calls.with("members 3;point 4 -1 0;point -3 5 2;voices 1 1 1");
    Calls.order(x, 0);
    due("a tie is the most", x.sides(1, 2, 0), 0);
    due("the first of all alike", x.sides(1, 2, 1), 1);
    due("two against one", x.sides(5, 2, 0), 5);
    due("they say yes", x.sides(5, 2, 1), 1);
    due("the other way round", x.sides(2, 5, 0), -5);
    due("what", x.sides(1, 2, 2), NO_GAIN);
    due("what below", x.sides(1, 2, -1), NO_GAIN);
    due("in both", x.sides(3, 2, 0), NO_GAIN);
    due("nobody", x.sides(0, 2, 0), NO_GAIN);
    due("nobody else", x.sides(1, 0, 0), NO_GAIN);
    due("no such", x.sides(1, 8, 0), NO_GAIN);
    due("below", x.sides(-1, 2, 0), NO_GAIN);
    x.attends(2, false);
    due("not there", x.sides(1, 4, 0), NO_GAIN);
    Calls.order(x);
    due("no day", x.sides(1, 2, 0), NO_GAIN);
    Calls.order(x, 0, 0, 0, 0, 0);
    due("too long a day", x.sides(1, 2, 0), NO_GAIN);
    VoicesLost lose = Calls.with("members 2;point 1 -1;point 50 -50;voices 2 2");
    Calls.order(lose, 0, 1);
    // Whatever is said at 0, 1 can be as strong at 1 by saying what 0 says: it ties at 0, 0.
    due("they hold each other", lose.sides(1, 2, 0), 0);
    VoicesLost no = Calls.with("members 2;point 0 3;voices 2 1");
    Calls.order(no, 0);
    due("no keeps it from them", no.sides(1, 2, 0), 0);
    due("that is a no", no.sides(1, 2, 1), 0);
    VoicesLost keeps = Calls.with("members 3;point 0 2 1;point 3 0 0;voices 1 1 1;bent 2 0",
        "no if point=1;yes");
    Calls.order(keeps, 0);
    due("a yes too many costs all alike", keeps.sides(1, 2, 0), -2);
  }

  /** Promise 22. */
  private static void chairman() {
    VoicesLost x = Calls.with("members 2;point 1 -1;point 7 -7;point -2 -2;voices 2 3");
    Calls.order(x, 2, 1, 0);
    // 0 and 1 oppose each other at 0 and 1: the first such is lost by 0 (3 1), the second won.
    due("most", x.chair(0, true, 0), 7);
    due("first row", x.chair(0, true, 1) * 100 + x.chair(0, true, 2) * 10 + x.chair(0, true, 3), 12);
    due("least", x.chair(0, false, 0), 0);
    due("of the other least", x.chair(1, false, 0), -7);
    due("beyond", x.chair(0, true, 4), NO_GAIN);
    due("below", x.chair(0, true, -1), NO_GAIN);
    due("nobody", x.chair(2, true, 0), NO_GAIN);
    Calls.order(x, 0, 0, 0, 0, 0, 0);
    due("six", x.chair(0, true, 6), 0);
    due("seven are none", x.chair(0, true, 7), NO_GAIN);
    x.order(0);
    due("too long", x.chair(0, true, 0), NO_GAIN);
    Calls.order(x);
    due("no order", x.chair(0, true, 0), NO_GAIN);
    due("nothing has changed", x.count(5), 0);
    VoicesLost y = Calls.with("members 1;point 3;point 5;bent 0 0", "yes if most=3;no");
    Calls.order(y, 0, 1);
    due("what is behind counts", y.chair(0, true, 0), 5);
    due("so this is first", y.chair(0, true, 1), 1);
    due("least of it", y.chair(0, false, 0), 0);
    due("so that is first", y.chair(0, false, 1), 0);
  }

  /** Promise 23. */
  private static void roundsOfDays() {
    VoicesLost x = Calls.with(THREE);
    Calls.order(x, 0);
    // 111 211 322 411 122 211: what comes behind one day comes again behind five.
    due("lead-in", x.rounds(0), 1);
    due("days", x.rounds(1), 4);
    due("through", x.rounds(2), 1);
    due("wins of 0", x.rounds(3), 1);
    due("wins of 1", x.rounds(4), 2);
    due("wins of 2", x.rounds(5), 2);
    due("no member", x.rounds(6), NONE);
    due("below", x.rounds(-1), NONE);
    Calls.order(x);
    due("no order", x.rounds(0), NONE);
    VoicesLost up = Calls.with("members 1;point 1;voices 2;bent 0 0", "keep");
    Calls.order(up, 0);
    due("at once", up.rounds(0), 0);
    due("of one day", up.rounds(1), 1);
    VoicesLost far = Calls.with("members 2;point 1 -1");
    Calls.order(far, 0);
    due("ties without an end", far.rounds(0), -2);
    due("none for a member either", far.rounds(4), -2);
    due("not even then", far.rounds(5), NONE);
    far.beside(0, 300);
    due("the cap ends them in 299 days", far.rounds(0), 299);
    due("and the same comes in the 300th", far.rounds(1), 1);
    far.beside(0, 301);
    due("one day too late", far.rounds(0), -2);
    VoicesLost turn = Calls.with("members 1;point 1;bent 0 0", "keep if turn<2;no");
    Calls.order(turn, 0);
    due("turn stays", turn.rounds(3), 0);
    turn.bench(0, 0);
    turn.bench(0, 0);
    due("turn is now's", turn.rounds(3), 1);
  }

  /** Promises 24 and 25. */
  private static void booksOfSums() {
    VoicesLost x = Calls.with("members 3");
    due("all fit", x.fits(2, 0, 0), 8);
    due("most fit", x.fits(6, 0, 0), 216);
    due("an entry", x.entry(1, 6, 2, 3), 1);
    // 0 has 2; 1 and 2 have 1 and 2: they win; then 0 has 3, and 1 and 2 have 1 each.
    due("two fit", x.fits(6, 0, 0), 2);
    due("least of 0", x.fits(6, 0, 1), 2);
    due("greatest of 0", x.fits(6, 0, 2), 2);
    due("least of 1", x.fits(6, 1, 1), 1);
    due("greatest of 1", x.fits(6, 1, 2), 2);
    due("two fit below 3", x.fits(2, 0, 0), 2);
    due("none below 2", x.fits(1, 0, 0), 0);
    due("least of none", x.fits(1, 0, 1), -2);
    due("greatest of none", x.fits(1, 0, 2), -2);
    due("behind it", x.entry(1, 2, 3, 1), 2);
    due("they still fit", x.fits(6, 0, 0), 2);
    due("as strong behind that", x.entry(3, 4, 3, 1), 3);
    due("1 has 2 by then", x.fits(6, 0, 0), 2);
    due("no such most", x.fits(0, 0, 0), NONE);
    due("no such most above", x.fits(7, 0, 0), NONE);
    due("no such member", x.fits(6, 3, 1), NONE);
    due("no such what", x.fits(6, 0, 3), NONE);
    due("no such what below", x.fits(6, 0, -1), NONE);
    due("in both", x.entry(3, 2, 0, 0), -2);
    due("beyond", x.entry(0, 8, 0, 0), -2);
    due("below", x.entry(-2, 0, 0, 0), -2);
    due("sum below", x.entry(1, 0, -1, 0), -2);
    due("sum above", x.entry(1, 0, 0, 100000), -2);
    Calls.dueStatus("entries", x, 5, 0);
    for (int i = 4; i <= 12; i++) {
      due("entry", x.entry(0, 0, 0, 0), i);
    }
    due("full", x.entry(0, 0, 99999, 99999), -2);
    Calls.dueStatus("full", x, 5, 1);
    due("none any more", x.entry(NONE, 99, -5, -5), 0);
    due("entries", x.count(7), 0);
    x.beside(1, 5);
    x.entry(0, 1, 0, 1);
    x.entry(1, 2, 1, 3);
    x.entry(0, 2, 0, 5);
    // 1 wins with 3 against 1 and has 1 then: 5 is wrong.
    due("by the law", x.fits(6, 1, 0), 0);
    x.entry(NONE, 0, 0, 0);
    x.entry(2, 1, 3, 3);
    x.entry(2, 1, 5, 5);
    due("double, but no more than the cap", x.fits(6, 1, 0), 6);
    VoicesLost many = Calls.with("members 6");
    due("too many members", many.fits(2, 0, 0), NONE);
    due("too many to tell", many.tells(2, 0), NONE);
    due("an entry all the same", many.entry(32, 31, 0, 0), 1);
  }

  /** Promise 26. */
  private static void telling() {
    VoicesLost x = Calls.with("members 2");
    // Each alone: two of four with one sum; together 2, 3, 3, 4: two as well. The least is 1.
    due("the set", x.tells(2, 0), 1);
    due("the number", x.tells(2, 1), 2);
    x.entry(3, 0, 3, 0);
    // Both have 1 behind it, so that nothing is told any more.
    due("nothing is told", x.tells(2, 0), 1);
    due("of both", x.tells(2, 1), 2);
    x.entry(NONE, 0, 0, 0);
    x.entry(1, 0, 1, 0);
    due("the other one is left", x.tells(3, 0), 2);
    due("of each one", x.tells(3, 1), 1);
    x.entry(1, 0, 5, 0);
    due("none fits: the least set", x.tells(3, 0), 1);
    due("none fits", x.tells(3, 1), 0);
    due("no most", x.tells(0, 0), NONE);
    due("no most above", x.tells(7, 0), NONE);
    due("no what", x.tells(1, 2), NONE);
    due("no what below", x.tells(1, -1), NONE);
    VoicesLost loud = Calls.with("members 5");
    loud.beside(1, 9999);
    for (int i = 0; i < 12; i++) {
      loud.entry(0, 0, 0, 0);
    }
    // Sums of five dice: 780 of 7776 have one, and every lesser set has more.
    due("all together", loud.tells(6, 0), 31);
    due("five dice", loud.tells(6, 1), 780);
  }

  /** Promises 27 and 28. */
  private static void years() {
    VoicesLost x = Calls.with("members 2;point 3 -1;point 5 5;point -7 1");
    due("seed", x.seed(5), 0);
    due("below", x.seed(-1), -2);
    due("greatest", x.seed(2147483647), 5);
    due("as it was", x.seed(0), 2147483647);
    // x: 12345, 1406932606, 654583775, 1449466924; draws 0, 21468, 9988, 22117: points 0 0 1 1.
    due("first vote ties", x.year(1, 0, 1), 0);
    due("greatest voices behind it", x.year(1, 0, 2), 2);
    due("second ties, too", x.year(2, 0, 2), 3);
    due("third is through", x.year(3, 0, 1), 1);
    due("gain", x.year(4, 0, 0), 10);
    due("the greatest stays", x.year(4, 0, 2), 3);
    due("x as it was", x.count(8), 0);
    due("nothing stays", x.count(5), 0);
    due("most votes", x.year(400, 0, 1) > 0 ? 1 : 0, 1);
    due("no votes", x.year(0, 0, 0), NO_GAIN);
    due("too many votes", x.year(401, 0, 0), NO_GAIN);
    due("nobody", x.year(1, 2, 0), NO_GAIN);
    due("no such", x.year(1, 0, 3), NO_GAIN);
    due("no such below", x.year(1, 0, -1), NO_GAIN);
    due("no points", Calls.with("members 2").year(1, 0, 0), NO_GAIN);
    VoicesLost turn = Calls.with("members 1;point 4;bent 0 0", "yes if turn=2 and left=0 and most=0;keep");
    due("turn goes on", turn.year(5, 0, 1), 1);
  }

  /** Promises 29 and 30. */
  private static void counts() {
    VoicesLost x = Calls.with("members 3;point 1 1 1;voices 2 3 4", "no");
    x.attends(1, false);
    Calls.order(x, 0, 0);
    x.entry(1, 2, 3, 4);
    x.seed(99);
    x.beside(2, 40);
    x.vote(0);
    x.feed(0, 0, 0, 0, 0);
    int[] all = {3, 1, 1, 2, 3, 1, 2, 1, 99, 20, 2, 40};
    for (int what = 0; what < 12; what++) {
      due("count " + what, x.count(what), all[what]);
    }
    due("count below", x.count(-1), NONE);
    due("count beyond", x.count(12), NONE);
    due("status below", x.status(-1), NONE);
    due("status beyond", x.status(2), NONE);
  }

  /** Promises 31 and 32. */
  private static void images() {
    VoicesLost x = Calls.with("members 2;point 1 -1;voices 3 4;bent 1 5", "no");
    Calls.order(x, 0, 0);
    x.entry(1, 2, 3, 4);
    x.seed(7);
    x.beside(1, 20);
    x.vote(0);
    due("image", x.image(2), 1);
    due("never made", x.back(1), -2);
    due("no such", x.image(4), -2);
    due("no such below", x.image(-1), -2);
    due("back to no such", x.back(4), -2);
    due("back below", x.back(-1), -2);
    Calls.dueStatus("images", x, 5, 0);
    due("another council", Calls.council(x, "members 4;point 1 2 3 4;point 1 2 3 4"), 4);
    due("another rule", Calls.rule(x, "no"), 1);
    x.seed(8);
    x.feed(0, 0, 0, 0, 0);
    due("image of that", x.image(0), 0);
    due("back", x.back(2), 1);
    int[] all = {2, 1, 2, 2, 7, 1, 2, 1, 7, 20, 1, 20};
    for (int what = 0; what < 12; what++) {
      due("back: count " + what, x.count(what), all[what]);
    }
    Calls.dueVoices("back", x, 6, 1);
    due("bent as it was", x.voice(1, 1), 5);
    due("won as it was", x.voice(1, 3), 1);
    due("lost as it was", x.voice(0, 4), 1);
    due("worth as it was", x.worth(1, 0), -1);
    due("order as it was", x.ordered(1), 0);
    due("books as they were", x.fits(6, 0, 0), 1);
    x.bend(1, 0);
    x.attends(0, false);
    x.day();
    due("an image is not changed", x.back(2), 1);
    Calls.dueVoices("back again", x, 6, 1);
    due("there again", x.count(3), 2);
    due("back to the other", x.back(0) * 10 + x.count(0), 4);
    due("an image made anew", x.image(2), 0);
    due("is the new one", x.back(2) * 10 + x.count(0), 4);
    Calls.dueStatus("not by all this", x, 5, 0);
  }

  /** What needs a COUNCIL, without one. */
  private static void withoutCouncil() {
    VoicesLost x = new VoicesLost();
    due("voice", x.voice(0, 0), NONE);
    due("worth", x.worth(0, 0), -1000);
    due("bend", x.bend(0, NONE), -2);
    due("attends", x.attends(0, true), -2);
    due("beside", x.beside(0, 5), -2);
    due("vote", x.vote(0), -2);
    due("bench", x.bench(0, 0), -2);
    due("order", x.order(0), -2);
    due("day", x.day(), -2);
    due("entry", x.entry(0, 0, 0, 0), -2);
    Calls.dueStatus("without a council", x, 8, 0);
    due("says", x.says(0, 0), NONE);
    due("ordered", x.ordered(0), NONE);
    due("open", x.open(0, 0, 0), NO_GAIN);
    due("lose", x.lose(1), NONE);
    due("plan", x.plan(1, 0, 0), NONE);
    due("spoilers", x.spoilers(1), NONE);
    due("sides", x.sides(1, 2, 0), NO_GAIN);
    due("chair", x.chair(0, true, 0), NO_GAIN);
    due("rounds", x.rounds(0), NONE);
    due("fits", x.fits(1, 0, 0), NONE);
    due("tells", x.tells(1, 0), NONE);
    due("year", x.year(1, 0, 0), NO_GAIN);
    due("seed", x.seed(3), 0);
    due("rule", Calls.rule(x, "yes"), 0);
    due("rules", x.count(2), 1);
    due("x", x.count(8), 3);
    Calls.dueStatus("as before", x, 8, 0);
  }
}
