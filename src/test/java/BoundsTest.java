import java.util.function.ToIntFunction;

/**
 * Promises 1 to 32, the bounds that each names: the last value that is taken and the first that is
 * not, the empty and the full case, what a refused call answers, what becomes of the state then, and
 * whether STATUS counts it.
 */
public final class BoundsTest {
  private static final int NONE = VoicesLost.NONE;
  private static final int NO_GAIN = Standing.NO_GAIN;
  private static final int FIRST = Standing.FIRST;
  private static final int LAST = Standing.LAST;
  private static final int[] NOT_MEMBERS = {-1, 3, 10, 32, FIRST, LAST};
  private static final int[] NOT_POINTS = {-2, 3, 12, FIRST, LAST};
  private static final int[] NOT_SETS = {-2, 8, 9, 1024, FIRST, FIRST + 1, LAST};

  private BoundsTest() {
  }

  public static void main(String[] args) {
    newObject();
    feed();
    end();
    council();
    rule();
    voice();
    worth();
    bend();
    attends();
    beside();
    says();
    vote();
    bench();
    order();
    ordered();
    day();
    open();
    lose();
    plan();
    spoilers();
    sides();
    chair();
    rounds();
    entry();
    fits();
    tells();
    seed();
    year();
    status();
    count();
    image();
    back();
    Calls.finish();
  }

  private static void due(String what, int got, int want) {
    Calls.due(what, got, want);
  }

  private static void refused(String what, ToIntFunction<VoicesLost> call, int reason) {
    Standing.refused(what, call, reason);
  }

  private static void asked(String what, ToIntFunction<VoicesLost> call, int answer) {
    Standing.asked(what, call, answer);
  }

  private static VoicesLost taken(String what, ToIntFunction<VoicesLost> call, int answer) {
    return Standing.taken(what, call, answer);
  }

  /** Promise 1: "No COUNCIL, no RULES." */
  private static void newObject() {
    VoicesLost x = new VoicesLost();
    for (int what = 0; what <= 11; what++) {
      due("1 new: count " + what, x.count(what), 0);
    }
    Calls.dueStatus("1 new", x, 0, 0);
    due("1 new: no member", x.voice(0, 0), NONE);
    due("1 new: no point", x.worth(0, 0), -1000);
    due("1 new: no order", x.ordered(0), NONE);
    for (int k = 0; k < 4; k++) {
      due("1 new: no image " + k, x.back(k), -2);
    }
    for (int number = 0; number < 6; number++) {
      due("1 new: room for six rules", Calls.rule(x, "keep"), number);
    }
  }

  /** Promise 2: "how many it has; NONE, and none comes, if it would have more than 400". */
  private static void feed() {
    VoicesLost x = new VoicesLost();
    due("2 the first", x.feed(0x6D656D62, 0x65727320, 0x39202020, 0x20202020, 0x20202020), 20);
    for (int i = 2; i <= 20; i++) {
      due("2 up to 400", x.feed(0x20202020, 0x20202020, 0x20202020, 0x20202020, 0x20202020), 20 * i);
    }
    due("2 none beyond 400", x.feed(0x3B3B3B3B, 0x3B3B3B3B, 0x3B3B3B3B, 0x3B3B3B3B, 0x3B3B3B3B), NONE);
    due("2 its length is as it was", x.count(9), 400);
    due("2 19 places are too few", x.end(381), 381);
    due("2 so that none comes", x.feed(0x3B3B3B3B, 0x3B3B3B3B, 0x3B3B3B3B, 0x3B3B3B3B, 0x3B3B3B3B), NONE);
    due("2 not even 19 of them", x.count(9), 381);
    due("2 20 places are enough", x.end(380), 380);
    due("2 so that all come", x.feed(0x20202020, 0x20202020, 0x20202020, 0x20202020, 0x20202020), 400);
    due("2 what was refused is nowhere", x.council(), 9);
    due("2 room again behind a council", x.feed(0, 0, 0, 0, 0), 20);
    Calls.dueStatus("2 not counted", x, 0, 0);
    feedOrder();
  }

  /** Promise 2: "of each number the highest first", bytes above 127 among them. */
  private static void feedOrder() {
    int[] blanks = {0x20202020, 0x20202020, 0x20202020, 0x20202020, 0x20202020};
    int[] highs = {0x00, 0x7F, 0x80, 0xFF};
    for (int place = 0; place < 20; place++) {
      VoicesLost x = new VoicesLost();
      int[] n = blanks.clone();
      int shift = 24 - 8 * (place % 4);
      n[place / 4] = n[place / 4] & ~(255 << shift) | highs[place % highs.length] << shift;
      x.feed(n[0], n[1], n[2], n[3], n[4]);
      due("2 byte " + place + " of twenty", x.rule(), -3 - 8 * place);
    }
  }

  /** Promise 3: "n; NONE, and nothing happens, if it has not so many, or n is below 0". */
  private static void end() {
    VoicesLost x = new VoicesLost();
    due("3 an empty one", x.end(0), 0);
    due("3 beyond an empty one", x.end(1), NONE);
    due("3 below 0", x.end(-1), NONE);
    due("3 far below 0", x.end(FIRST), NONE);
    x.feed(0x6E6F2020, 0x20202020, 0x20202020, 0x20202020, 0x20202078);
    due("3 as many as it has", x.end(20), 20);
    due("3 one more", x.end(21), NONE);
    due("3 far more", x.end(LAST), NONE);
    due("3 below 0", x.end(-1), NONE);
    due("3 nothing has happened", x.count(9), 20);
    due("3 one less", x.end(19), 19);
    due("3 what is cut off does not come again", x.end(20), NONE);
    due("3 nor is it read", x.rule(), 0);
    x.feed(0x6E6F2020, 0x20202020, 0x20202020, 0x20202020, 0x20202078);
    due("3 nothing at all", x.end(0), 0);
    due("3 it is empty then", x.count(9), 0);
    due("3 and read as that", x.rule(), -3);
    Calls.dueStatus("3 not counted", x, 0, 0);
    due("3 with a council, too", Standing.council().end(10), NONE);
    asked("3 one too many", y -> y.end(10), NONE);
    asked("3 all", y -> y.end(9), 9);
    asked("3 below", y -> y.end(-1), NONE);
  }

  /** Promise 4: what a COUNCIL makes new and what stays; "-2 - its FAULT, and all stays". */
  private static void council() {
    VoicesLost x = Standing.council();
    due("4 in place of the other", x.council(), 4);
    int[] counts = {4, 0, 2, 4, 4, 0, 0, 0, 78, 0, 0, 9999};
    for (int what = 0; what <= 11; what++) {
      due("4 behind it: count " + what, x.count(what), counts[what]);
    }
    for (int member = 0; member < 4; member++) {
      int[] fresh = {1, NONE, 1, 0, 0};
      for (int what = 0; what < 5; what++) {
        due("4 behind it: voice " + member + " " + what, x.voice(member, what), fresh[what]);
      }
    }
    due("4 no such point any more", x.worth(0, 0), -1000);
    due("4 no order any more", x.ordered(0), NONE);
    Calls.dueStatus("4 status stays", x, 1, 0);
    due("4 the images stay", x.back(1), 1);
    due("4 and what they have", x.count(0) * 100 + x.count(8), 377);
    for (String bad : new String[] {"", "members 0", "members 2;", "no", "members 3;point 1 2 100"}) {
      councilStays(bad);
    }
  }

  private static void councilStays(String bad) {
    ToIntFunction<VoicesLost> call = x -> {
      int answer = x.council();
      return answer <= -3 ? -3 : answer;
    };
    Standing.hold("4 a fault: all stays behind '" + bad + "'", () -> {
      VoicesLost x = Standing.council();
      Calls.lay(x, bad);
      return x;
    }, call, -3, NONE);
    VoicesLost x = new VoicesLost();
    due("4 no council behind '" + bad + "'", Calls.council(x, bad) <= -3 ? 1 : 0, 1);
    due("4 and so no cap", x.count(11), 0);
    due("4 and its tape", x.count(9), bad.length());
  }

  /** Promise 5: "its number; -2 - its FAULT; NONE, and nothing happens: there are 6". */
  private static void rule() {
    VoicesLost x = new VoicesLost();
    due("5 a fault has no number", Calls.rule(x, "yes if"), -3 - 8 * 6);
    due("5 the tape is empty then", x.count(9), 0);
    for (int number = 0; number < 6; number++) {
      due("5 a number", Calls.rule(x, "yes if turn=" + number), number);
      due("5 the tape is empty then", x.count(9), 0);
      due("5 rules", x.count(2), number + 1);
      due("5 a fault between", Calls.rule(x, "yess"), number < 5 ? -3 : NONE);
      due("5 its tape", x.count(9), number < 5 ? 0 : 4);
      due("5 as many rules", x.count(2), number + 1);
    }
    Calls.dueStatus("5 not counted", x, 0, 0);
    for (String seventh : new String[] {"no", "", "yess", "members 4"}) {
      Standing.hold("5 six are all: '" + seventh + "'", () -> {
        VoicesLost y = Standing.council();
        for (int i = 2; i < 6; i++) {
          Calls.rule(y, "no");
        }
        Calls.lay(y, seventh);
        return y;
      }, y -> y.rule(), NONE, NONE);
    }
    VoicesLost late = Calls.with("members 1;point 1;bent 0 5");
    for (int number = 0; number < 6; number++) {
      due("5 not told yet", late.says(0, 0), 1);
      due("5 told", Calls.rule(late, "no"), number);
    }
    due("5 the last has number 5", late.says(0, 0), 0);
  }

  /** Promise 6: "NONE without these". */
  private static void voice() {
    int[][] due = {{2, NONE, 1, 1, 1}, {1, 0, 1, 1, 1}, {1, 4, 0, 0, 0}};
    VoicesLost x = Standing.council();
    for (int member = 0; member < 3; member++) {
      for (int what = 0; what < 5; what++) {
        due("6 voice " + member + " " + what, x.voice(member, what), due[member][what]);
      }
    }
    for (int member : NOT_MEMBERS) {
      asked("6 no member " + member, y -> y.voice(member, 0), NONE);
      asked("6 no member's presence " + member, y -> y.voice(member, 2), NONE);
    }
    for (int what : new int[] {-1, 5, FIRST, LAST}) {
      asked("6 no such " + what, y -> y.voice(0, what), NONE);
    }
    for (int what = 0; what < 5; what++) {
      int which = what;
      Standing.askedWithoutCouncil("6 voice", y -> y.voice(0, which), NONE);
    }
    VoicesLost ten = Calls.with("members 10;voices 1 2 3 4 5 6 7 8 9 999");
    due("6 the tenth", ten.voice(9, 0), 999);
    due("6 no eleventh", ten.voice(10, 0), NONE);
  }

  /** Promise 7: "-1000 without these". */
  private static void worth() {
    asked("7 the first", x -> x.worth(0, 0), 5);
    asked("7 the last", x -> x.worth(2, 2), 1);
    asked("7 the most below 0", x -> x.worth(1, 2), -99);
    asked("7 the most above 0", x -> x.worth(0, 2), 99);
    asked("7 nothing", x -> x.worth(2, 1), 0);
    for (int member : NOT_MEMBERS) {
      asked("7 no member " + member, x -> x.worth(member, 0), -1000);
    }
    asked("7 no point", x -> x.worth(0, -1), -1000);
    for (int point : NOT_POINTS) {
      asked("7 no point " + point, x -> x.worth(0, point), -1000);
    }
    Standing.askedWithoutCouncil("7 worth", x -> x.worth(0, 0), -1000);
    VoicesLost x = Calls.with("members 10" + ";point 1 2 3 4 5 6 7 8 9 10".repeat(11)
        + ";point 0 0 0 0 0 0 0 0 0 77");
    due("7 the tenth of the twelfth", x.worth(9, 11), 77);
    due("7 the tenth of the eleventh", x.worth(9, 10), 10);
    due("7 no thirteenth", x.worth(9, 12), -1000);
  }

  /** Promise 8: "a RULE (0 to 5; NONE: true): what it was; -2 without these (STATUS 0)". */
  private static void bend() {
    due("8 the least", taken("8 bend", x -> x.bend(0, 0), NONE).voice(0, 1), 0);
    due("8 the greatest", taken("8 bend", x -> x.bend(2, 5), 4).voice(2, 1), 5);
    due("8 true", taken("8 bend", x -> x.bend(1, NONE), 0).voice(1, 1), NONE);
    due("8 true as he was", taken("8 bend", x -> x.bend(0, NONE), NONE).voice(0, 1), NONE);
    due("8 as it was", taken("8 bend", x -> x.bend(2, 4), 4).voice(2, 1), 4);
    for (int rule : new int[] {-2, 6, FIRST, LAST}) {
      refused("8 no rule " + rule, x -> x.bend(0, rule), 0);
    }
    for (int member : NOT_MEMBERS) {
      refused("8 no member " + member, x -> x.bend(member, 0), 0);
      refused("8 no true member " + member, x -> x.bend(member, NONE), 0);
    }
    Standing.refusedWithoutCouncil("8 bend", x -> x.bend(0, 0));
    Standing.refusedWithoutCouncil("8 bend", x -> x.bend(0, NONE));
  }

  /** Promise 9: "how many are PRESENT; -2 without him, or if it is so (STATUS 0)". */
  private static void attends() {
    refused("9 he is there", x -> x.attends(0, true), 0);
    refused("9 he is not there", x -> x.attends(2, false), 0);
    for (int member : NOT_MEMBERS) {
      refused("9 no member " + member, x -> x.attends(member, true), 0);
      refused("9 no member to go " + member, x -> x.attends(member, false), 0);
    }
    Standing.refusedWithoutCouncil("9 comes", x -> x.attends(0, true));
    Standing.refusedWithoutCouncil("9 goes", x -> x.attends(0, false));
    VoicesLost all = taken("9 the last one comes", x -> x.attends(2, true), 3);
    due("9 with one voice", all.voice(2, 0), 1);
    due("9 all are there", all.count(3), 3);
    VoicesLost none = taken("9 one goes", x -> x.attends(0, false), 1);
    due("9 with one voice", none.voice(0, 0), 1);
    due("9 the last one goes", none.attends(1, false), 0);
    due("9 nobody is there", none.count(3), 0);
    due("9 and no voices", none.count(4), 0);
    due("9 their votes stay", none.voice(0, 3) * 10 + none.voice(0, 4), 11);
    due("9 nobody votes", none.vote(0), 2);
    due("9 nobody loses", none.voice(0, 4) + none.voice(1, 4), 2);
    due("9 it was a vote", none.count(5), 3);
    due("9 the first comes back", none.attends(0, true), 1);
    VoicesLost loud = Calls.with("members 2;voices 999 998");
    due("9 999 voices go", loud.attends(0, false) * 10 + loud.voice(0, 0), 11);
    due("9 and do not come back", loud.attends(0, true) * 10 + loud.voice(0, 0), 21);
    due("9 his own alone", loud.voice(1, 0), 998);
  }

  /** Promise 10: "what the LAW was; -2 without these (STATUS 0; also without a COUNCIL)". */
  private static void beside() {
    int[][] good = {{0, 1}, {1, 1}, {2, 1}, {0, 9999}, {1, 9999}, {2, 9999}, {1, 50}};
    for (int[] one : good) {
      VoicesLost x = taken("10 beside", y -> y.beside(one[0], one[1]), 1);
      due("10 law", x.count(10), one[0]);
      due("10 cap", x.count(11), one[1]);
    }
    int[][] bad = {{-1, 50}, {3, 50}, {FIRST, 50}, {LAST, 50}, {0, 0}, {0, -1}, {0, 10000},
        {2, FIRST}, {2, LAST}, {-1, 0}, {3, 10000}};
    for (int[] one : bad) {
      refused("10 no such " + one[0] + " " + one[1], x -> x.beside(one[0], one[1]), 0);
    }
    Standing.refusedWithoutCouncil("10 beside", x -> x.beside(0, 9999));
    Standing.refusedWithoutCouncil("10 beside", x -> x.beside(3, 0));
  }

  /** Promise 11: "NONE without these (not PRESENT, too)". */
  private static void says() {
    asked("11 truly", x -> x.says(0, 2), 1);
    asked("11 by itself nothing is left", x -> x.says(1, 0), 0);
    asked("11 not present", x -> x.says(2, 0), NONE);
    asked("11 no point below", x -> x.says(0, -1), NONE);
    for (int member : NOT_MEMBERS) {
      asked("11 no member " + member, x -> x.says(member, 0), NONE);
    }
    for (int point : NOT_POINTS) {
      asked("11 no point " + point, x -> x.says(0, point), NONE);
    }
    Standing.askedWithoutCouncil("11 says", x -> x.says(0, 0), NONE);
    VoicesLost x = Calls.with("members 1;point 1;point 0;point -1");
    due("11 just above 0", x.says(0, 0), 1);
    due("11 just 0", x.says(0, 1), 2);
    due("11 just below 0", x.says(0, 2), 0);
    x.attends(0, false);
    due("11 gone", x.says(0, 0), NONE);
    x.attends(0, true);
    due("11 there again", x.says(0, 0), 1);
  }

  /** Promise 12: "1 THROUGH, 0 not, 2 both are as strong; -2 without it (STATUS 0)". */
  private static void vote() {
    refused("12 NONE is no point", x -> x.vote(NONE), 0);
    for (int point : NOT_POINTS) {
      refused("12 no point " + point, x -> x.vote(point), 0);
    }
    Standing.refusedWithoutCouncil("12 vote", x -> x.vote(0));
    VoicesLost none = Calls.with("members 2");
    due("12 no points at all", none.vote(0), -2);
    Calls.dueStatus("12 no points at all", none, 1, 0);
    String[] voices = {"3 2", "2 2", "1 2"};
    int[] outcomes = {1, 2, 0};
    for (int i = 0; i < 3; i++) {
      VoicesLost x = Calls.with("members 2;point 1 -1;voices " + voices[i]);
      due("12 " + voices[i], x.vote(0), outcomes[i]);
      due("12 turn", x.count(5), 1);
    }
    VoicesLost last = Calls.with("members 1" + ";point -1".repeat(11) + ";point 1");
    due("12 the twelfth", last.vote(11), 1);
    due("12 the eleventh", last.vote(10), 0);
    due("12 no thirteenth", last.vote(12), -2);
  }

  /** Promise 13: "-2 without these (nobody in both; STATUS 0)... turn is 1 more all the same". */
  private static void bench() {
    for (int set : NOT_SETS) {
      refused("13 no set " + set, x -> x.bench(set, 0), 0);
      refused("13 no other set " + set, x -> x.bench(0, set), 0);
    }
    refused("13 NONE is no set", x -> x.bench(NONE, 0), 0);
    refused("13 NONE is no other set", x -> x.bench(0, NONE), 0);
    refused("13 one in both", x -> x.bench(3, 2), 0);
    refused("13 all in both", x -> x.bench(7, 7), 0);
    refused("13 who is not present in both", x -> x.bench(5, 4), 0);
    Standing.refusedWithoutCouncil("13 bench", x -> x.bench(0, 0));
    Standing.refusedWithoutCouncil("13 bench", x -> x.bench(1, 0));
    VoicesLost x = taken("13 nobody", y -> y.bench(0, 0), 2);
    due("13 turn", x.count(5), 3);
    Calls.dueVoices("13 nobody", x, 2, 1, 1);
    x = taken("13 all of them", y -> y.bench(7, 0), 1);
    Calls.dueVoices("13 all win", x, 1, 1, 1);
    due("13 who is not present has not won", x.voice(2, 3), 0);
    x = taken("13 all against", y -> y.bench(0, 7), 0);
    due("13 the first has won", x.voice(0, 3), 2);
    x = taken("13 only who is not present", y -> y.bench(4, 0), 2);
    due("13 he keeps still", x.voice(2, 0) * 10 + x.voice(2, 4), 10);
    x = taken("13 his voice does not count", y -> y.bench(1, 6), 1);
    Calls.dueVoices("13 double for who lost", x, 1, 2, 1);
    VoicesLost ten = Calls.with("members 10");
    due("13 all ten", ten.bench(1023, 0), 1);
    due("13 the tenth against all", ten.bench(512, 511), 0);
    due("13 no eleventh", ten.bench(1024, 0), -2);
    due("13 no eleventh against", ten.bench(0, 1024), -2);
    Calls.dueStatus("13 ten", ten, 2, 0);
  }

  /** Promise 14: "NONE: it is empty then, 0... -2 without it (STATUS 0), or if it has 8 (1)". */
  private static void order() {
    for (int point : NOT_POINTS) {
      refused("14 no point " + point, x -> x.order(point), 0);
    }
    due("14 the fourth", taken("14 order", x -> x.order(2), 4).ordered(3), 2);
    VoicesLost x = taken("14 empty", y -> y.order(NONE), 0);
    due("14 nothing on it", x.count(6), 0);
    due("14 empty again", x.order(NONE), 0);
    for (int i = 1; i <= 8; i++) {
      due("14 up to eight", x.order(i % 3), i);
    }
    Calls.dueStatus("14 eight", x, 1, 0);
    due("14 not nine", x.order(0), -2);
    Calls.dueStatus("14 nine", x, 1, 1);
    due("14 still eight", x.count(6), 8);
    due("14 the eighth", x.ordered(7), 2);
    due("14 empty behind eight", x.order(NONE), 0);
    due("14 room again", x.order(2), 1);
    due("14 the new one", x.ordered(0), 2);
    Calls.dueStatus("14 room again", x, 1, 1);
    Standing.hold("14 a ninth changes nothing", () -> eight(), y -> y.order(1), -2, 1);
    Standing.hold("14 a ninth that is no point", () -> eight(), y -> y.order(3), -2, 0);
    Standing.refusedWithoutCouncil("14 order", y -> y.order(0));
    Standing.askedWithoutCouncil("14 order", y -> y.order(NONE), 0);
    VoicesLost none = Calls.with("members 1");
    due("14 no points at all", none.order(0), -2);
    Calls.dueStatus("14 no points at all", none, 1, 0);
  }

  private static VoicesLost eight() {
    VoicesLost x = Standing.council();
    for (int i = 0; i < 5; i++) {
      x.order(2);
    }
    return x;
  }

  /** Promise 15: "NONE without it". */
  private static void ordered() {
    asked("15 the first", x -> x.ordered(0), 0);
    asked("15 the last", x -> x.ordered(2), 0);
    for (int place : new int[] {-1, 3, 8, FIRST, LAST}) {
      asked("15 no place " + place, x -> x.ordered(place), NONE);
    }
    VoicesLost x = eight();
    due("15 the eighth", x.ordered(7), 2);
    due("15 no ninth", x.ordered(8), NONE);
    x.order(NONE);
    due("15 of an empty one", x.ordered(0), NONE);
    Standing.askedWithoutCouncil("15 ordered", y -> y.ordered(0), NONE);
  }

  /** Promise 16: "how many are THROUGH; -2 without a COUNCIL (STATUS 0)". */
  private static void day() {
    Standing.refusedWithoutCouncil("16 day", x -> x.day());
    VoicesLost x = Calls.with("members 2;point 1 1;point -1 -1");
    due("16 of nothing", x.day(), 0);
    due("16 that is no vote", x.count(5), 0);
    Calls.order(x, 0, 0, 0, 0, 0, 0, 0, 0);
    due("16 of eight", x.day(), 8);
    due("16 eight votes", x.count(5), 8);
    Calls.order(x, 1);
    due("16 none is through", x.day(), 0);
    Calls.dueStatus("16 day", x, 0, 0);
    VoicesLost none = Calls.with("members 2");
    due("16 without points", none.day(), 0);
    Calls.dueStatus("16 without points", none, 0, 0);
    due("16 with nobody", gone().day(), 0);
  }

  /** Nobody of two is PRESENT; the ORDER has one POINT. */
  private static VoicesLost gone() {
    VoicesLost x = Calls.with("members 2;point 1 2");
    x.attends(0, false);
    x.attends(1, false);
    x.order(0);
    return x;
  }

  /** Promise 17: OPEN 0 to 60 DAYS; "-1000000 without these". */
  private static void open() {
    for (int what = 0; what <= 4; what++) {
      int which = what;
      asked("17 no days " + what, x -> x.open(0, 0, which), 0);
      asked("17 below " + what, x -> x.open(-1, 0, which), NO_GAIN);
      asked("17 too many " + what, x -> x.open(61, 0, which), NO_GAIN);
      asked("17 far below " + what, x -> x.open(FIRST, 0, which), NO_GAIN);
      asked("17 far too many " + what, x -> x.open(LAST, 0, which), NO_GAIN);
      Standing.askedWithoutCouncil("17 open", x -> x.open(0, 0, which), NO_GAIN);
      for (int member : NOT_MEMBERS) {
        asked("17 no member " + member, x -> x.open(1, member, which), NO_GAIN);
      }
    }
    for (int what : new int[] {-1, 5, FIRST, LAST}) {
      asked("17 no such " + what, x -> x.open(1, 0, what), NO_GAIN);
    }
    VoicesLost x = Calls.with("members 3;point 5 -3 -4");
    due("17 an empty order", x.open(60, 0, 0) + x.open(60, 0, 1) + x.open(60, 0, 4), 0);
    Calls.order(x, 0, 0);
    due("17 sixty days", x.open(60, 0, 1), 30);
    due("17 their gain", x.open(60, 0, 0), 150);
    due("17 one voice each", x.open(60, 0, 3), 0);
    due("17 sixty days even", x.open(60, 2, 4), -120);
    int through = 0;
    for (int i = 0; i < 60; i++) {
      through += x.day();
    }
    due("17 as it comes", through, 30);
    due("17 nobody is there", gone().open(60, 0, 1), 0);
    VoicesLost away = Calls.with("members 2;point 3 -8");
    away.attends(1, false);
    away.order(0);
    due("17 gain of one who is not there", away.open(2, 1, 0), -16);
    due("17 the same with one voice each", away.open(2, 1, 2), -16);
    due("17 even", away.open(2, 1, 4), 0);
  }

  /** Promise 18: one to three PRESENT MEMBERS, 1 to 4 POINTS; "-2: it can't be; NONE without these". */
  private static void lose() {
    for (int faction : new int[] {0, NONE, 4, 5, 7, 8, 9, 1024, FIRST, LAST}) {
      asked("18 no faction " + faction, x -> x.lose(faction), NONE);
      asked("19 no faction " + faction, x -> x.plan(faction, 0, 0), NONE);
      asked("20 no faction " + faction, x -> x.spoilers(faction), NONE);
    }
    Standing.askedWithoutCouncil("18 lose", x -> x.lose(1), NONE);
    // Truly 2:1, then a tie and another one; a no at first lets 1 have two voices, and lose them.
    asked("18 it can be", x -> x.lose(1), 1);
    VoicesLost x = Calls.with("members 10;point 1 1 1 1 1 1 1 1 1 1;point -1 -1 -1 -1 -1 -1 -1 -1 -1 -1");
    due("18 no order", x.lose(1), NONE);
    for (int places = 1; places <= 5; places++) {
      x.order(0);
      due("18 a day of " + places, x.lose(1), places <= 4 ? 0 : NONE);
    }
    Calls.order(x, 0, 0, 0, 0);
    due("18 the last three", x.lose(512 + 256 + 128), 0);
    due("18 one is enough", x.lose(512), 0);
    due("18 four are too many", x.lose(512 + 256 + 128 + 64), NONE);
    due("18 all are too many", x.lose(1023), NONE);
    due("18 no eleventh", x.lose(1024 + 1), NONE);
    Calls.order(x, 0, 1);
    due("18 it can't be", x.lose(512 + 256 + 128), -2);
    Calls.order(x, 1);
    due("18 not at once either", x.lose(7), -2);
    due("18 nobody else is there", Calls.with("members 1;point -1").lose(1), NONE);
    VoicesLost alone = Calls.with("members 1;point -1;point 0");
    Calls.order(alone, 0, 1, 0, 1);
    due("18 each vote but the last is free", alone.lose(1), 1);
    Calls.order(alone, 1);
    due("18 to keep still is not yes", alone.lose(1), 1);
    VoicesLost tie = Calls.with("members 2;point 1 -1");
    tie.order(0);
    due("18 as strong is not through", tie.lose(1), -2);
    due("18 a no thrown", tie.lose(2), 1);
    Calls.dueStatus("18 not counted", x, 0, 0);
  }

  /** Promise 19: a place of the ORDER, a MEMBER of the FACTION; "-2... NONE without these". */
  private static void plan() {
    asked("19 at the first", x -> x.plan(1, 0, 0), 0);
    asked("19 at the second", x -> x.plan(1, 1, 0), 0);
    asked("19 at the last", x -> x.plan(1, 2, 0), 1);
    for (int place : new int[] {-1, 3, 4, FIRST, LAST}) {
      asked("19 no place " + place, x -> x.plan(1, place, 0), NONE);
    }
    for (int member : NOT_MEMBERS) {
      asked("19 no member " + member, x -> x.plan(1, 0, member), NONE);
    }
    asked("19 not of the faction", x -> x.plan(1, 0, 1), NONE);
    asked("19 not present", x -> x.plan(3, 0, 2), NONE);
    Standing.askedWithoutCouncil("19 plan", x -> x.plan(1, 0, 0), NONE);
    VoicesLost x = Calls.with("members 2;point -1 -9;voices 1 5");
    x.order(0);
    due("19 it can't be", x.plan(1, 0, 0), -2);
    due("19 no place of what can't be", x.plan(1, 1, 0), NONE);
    due("19 no member of what can't be", x.plan(1, 0, 1), NONE);
    x.order(NONE);
    due("19 no order", x.plan(1, 0, 0), NONE);
    Calls.order(x, 0, 0, 0, 0);
    due("19 the fourth place", x.plan(2, 3, 1), 1);
    due("19 no fifth place", x.plan(2, 4, 1), NONE);
    x.order(0);
    due("19 five places", x.plan(2, 0, 1), NONE);
    // Of plans that throw the same one vote the first: what comes first says yes where it is free.
    VoicesLost three = Calls.with("members 3;point 0 0 0;point 1 1 1");
    Calls.order(three, 0);
    due("19 one yes is enough", three.lose(7), 1);
    due("19 the first says it", three.plan(7, 0, 0), 1);
    due("19 the second keeps still", three.plan(7, 0, 1), 2);
    due("19 the third keeps still", three.plan(7, 0, 2), 2);
    VoicesLost two = Calls.with("members 2;point -1 -1");
    Calls.order(two, 0);
    due("19 both say yes, which costs no more than", two.lose(3), 2);
    due("19 a yes", two.plan(3, 0, 0), 1);
    due("19 and keeping still", two.plan(3, 0, 1), 1);
  }

  /** Promise 20: "as bits; -2: there is no PLAN; NONE without these". */
  private static void spoilers() {
    Standing.askedWithoutCouncil("20 spoilers", x -> x.spoilers(1), NONE);
    VoicesLost x = Calls.with("members 10;point 1 1 1 1 1 1 1 1 1 1;voices 1 9 9 9 9 9 9 9 9 99");
    due("20 no order", x.spoilers(1), NONE);
    x.order(0);
    due("20 the loudest alone", x.spoilers(1), 512);
    due("20 against the loudest nobody", x.spoilers(512), 0);
    x.attends(9, false);
    due("20 who is gone can't", x.spoilers(1), 0);
    // Who loses the first has ten voices, all others one each.
    for (int places = 2; places <= 5; places++) {
      x.order(0);
      due("20 a day of " + places, x.spoilers(1), places <= 4 ? 510 : NONE);
    }
    VoicesLost tie = Calls.with("members 3;point 1 0 0;voices 5 5 4");
    tie.order(0);
    due("20 as strong is enough", tie.spoilers(1), 2);
    due("20 who says yes alone", tie.spoilers(6), 1);
    due("20 all of them", tie.spoilers(7), 0);
    VoicesLost no = Calls.with("members 2;point -1 -9;voices 1 5");
    no.order(0);
    due("20 no plan", no.spoilers(1), -2);
    due("20 nobody else", Calls.with("members 1;point 1").spoilers(1), NONE);
  }

  /** Promise 21: one PRESENT MEMBER at least each, nobody in both, 1 to 4 POINTS; "-1000000 without these". */
  private static void sides() {
    for (int set : new int[] {0, NONE, 4, 5, 8, 1024, FIRST, LAST}) {
      for (int what = 0; what < 2; what++) {
        int which = what;
        asked("21 no side " + set, x -> x.sides(set, 2, which), NO_GAIN);
        asked("21 no other side " + set, x -> x.sides(1, set, which), NO_GAIN);
      }
    }
    asked("21 in both", x -> x.sides(3, 2, 0), NO_GAIN);
    asked("21 the same", x -> x.sides(1, 1, 1), NO_GAIN);
    for (int what : new int[] {-1, 2, FIRST, LAST}) {
      asked("21 no such " + what, x -> x.sides(1, 2, what), NO_GAIN);
    }
    Standing.askedWithoutCouncil("21 sides", x -> x.sides(1, 2, 0), NO_GAIN);
    VoicesLost x = Calls.with("members 10;point 1 1 1 1 1 1 1 1 1 1;voices 9 1 1 1 1 1 1 1 1 1");
    due("21 no order", x.sides(1, 2, 0), NO_GAIN);
    for (int places = 1; places <= 5; places++) {
      x.order(0);
      due("21 a day of " + places, x.sides(7, 1016, 0) == NO_GAIN ? 1 : 0, places <= 4 ? 0 : 1);
    }
    Calls.order(x, 0);
    due("21 one against nine is a tie", x.sides(1, 1022, 0), 0);
    due("21 one against eight", x.sides(1, 1020, 0), 0);
    due("21 says no, since they gain more", x.sides(1, 1020, 1), 0);
    due("21 nine against one", x.sides(1022, 1, 0), 0);
    due("21 the first of several", x.sides(1022, 1, 1), 1);
    due("21 no eleventh", x.sides(1024, 1, 0), NO_GAIN);
    Calls.dueStatus("21 not counted", x, 0, 0);
  }

  /** Promise 22: 1 to 6 POINTS; "-1000000 without these (beyond the ORDER, too)". */
  private static void chair() {
    for (int what = 0; what <= 3; what++) {
      int which = what;
      due("22 up to the order " + what, Standing.council().chair(0, true, which) == NO_GAIN ? 1 : 0, 0);
      for (int member : NOT_MEMBERS) {
        asked("22 no member " + member, x -> x.chair(member, true, which), NO_GAIN);
      }
    }
    for (int what : new int[] {-1, 4, 6, 7, FIRST, LAST}) {
      asked("22 no such " + what, x -> x.chair(0, true, what), NO_GAIN);
      asked("22 no such least " + what, x -> x.chair(0, false, what), NO_GAIN);
    }
    Standing.askedWithoutCouncil("22 chair", x -> x.chair(0, true, 0), NO_GAIN);
    VoicesLost x = Calls.with("members 2;point 3 1;point 2 1;point 0 1");
    due("22 no order", x.chair(0, true, 0), NO_GAIN);
    for (int places = 1; places <= 8; places++) {
      x.order(places % 2);
      int gain = places / 2 * 5 + places % 2 * 2;
      due("22 a day of " + places, x.chair(0, true, 0), places <= 6 ? gain : NO_GAIN);
      due("22 the last of " + places, x.chair(0, false, places), places <= 6 ? 1 : NO_GAIN);
      due("22 behind the last of " + places, x.chair(0, true, places + 1), NO_GAIN);
    }
    due("22 nobody is there", gone().chair(0, true, 0), 0);
    due("22 nobody is there: the point", gone().chair(0, true, 1), 0);
  }

  /** Promise 23: the ORDER, 1 at least; within 300 DAYS; "-2: none within 300; NONE without these". */
  private static void rounds() {
    for (int what : new int[] {-1, 6, 13, FIRST, LAST}) {
      asked("23 no such " + what, x -> x.rounds(what), NONE);
    }
    Standing.askedWithoutCouncil("23 rounds", x -> x.rounds(0), NONE);
    Standing.askedWithoutCouncil("23 rounds", x -> x.rounds(3), NONE);
    VoicesLost x = Calls.with("members 10;point 1 1 1 1 1 1 1 1 1 1");
    due("23 no order", x.rounds(0), NONE);
    x.order(0);
    due("23 at once", x.rounds(0), 0);
    due("23 one day", x.rounds(1), 1);
    due("23 through", x.rounds(2), 1);
    due("23 the tenth wins", x.rounds(12), 1);
    due("23 no eleventh", x.rounds(13), NONE);
    Calls.order(x, 0, 0, 0, 0, 0, 0, 0, 0);
    due("23 eight wins a day", x.rounds(12), 8);
    due("23 eight through", x.rounds(2), 8);
    int[] caps = {1, 2, 299, 300, 301, 9999};
    for (int cap : caps) {
      VoicesLost tie = Calls.with("members 2;point 1 -1");
      tie.order(0);
      tie.beside(0, cap);
      boolean isWithin = cap <= 300;
      due("23 lead-in, cap " + cap, tie.rounds(0), isWithin ? cap - 1 : -2);
      due("23 a day of it, cap " + cap, tie.rounds(1), isWithin ? 1 : -2);
      due("23 none through, cap " + cap, tie.rounds(2), isWithin ? 0 : -2);
      due("23 the first wins, cap " + cap, tie.rounds(3), isWithin ? 0 : -2);
      due("23 the second wins, cap " + cap, tie.rounds(4), isWithin ? 0 : -2);
      due("23 no third, cap " + cap, tie.rounds(5), NONE);
    }
    due("23 nobody is there", gone().rounds(1), 1);
    due("23 nothing is through", gone().rounds(2), 0);
  }

  /** Promise 24: sums 0 to 99999, 12 ENTRIES; "-2 without these (STATUS 0), or if there are 12 (1)". */
  private static void entry() {
    for (int set : NOT_SETS) {
      refused("24 no set " + set, x -> x.entry(set, 0, 0, 0), 0);
      refused("24 no other set " + set, x -> x.entry(0, set, 0, 0), 0);
    }
    refused("24 NONE is no other set", x -> x.entry(0, NONE, 0, 0), 0);
    refused("24 one in both", x -> x.entry(3, 2, 5, 5), 0);
    refused("24 all in both", x -> x.entry(7, 7, 5, 5), 0);
    for (int sum : new int[] {-1, 100000, FIRST, LAST}) {
      refused("24 no sum " + sum, x -> x.entry(1, 2, sum, 0), 0);
      refused("24 no other sum " + sum, x -> x.entry(1, 2, 0, sum), 0);
    }
    taken("24 the least sums", x -> x.entry(1, 2, 0, 0), 2);
    taken("24 the greatest sums", x -> x.entry(1, 2, 99999, 99999), 2);
    taken("24 all of them", x -> x.entry(7, 0, 5, 0), 2);
    taken("24 all against", x -> x.entry(0, 7, 0, 5), 2);
    taken("24 nobody", x -> x.entry(0, 0, 0, 0), 2);
    due("24 none then", taken("24 NONE", x -> x.entry(NONE, 0, 0, 0), 0).count(7), 0);
    taken("24 NONE, whatever else", x -> x.entry(NONE, FIRST, -1, LAST), 0);
    Standing.refusedWithoutCouncil("24 entry", x -> x.entry(0, 0, 0, 0));
    Standing.askedWithoutCouncil("24 entry", x -> x.entry(NONE, 0, 0, 0), 0);
    Standing.hold("24 a thirteenth", () -> twelve(), x -> x.entry(1, 2, 5, 5), -2, 1);
    Standing.hold("24 a thirteenth not as told", () -> twelve(), x -> x.entry(1, 1, 5, 5), -2, 0);
    Standing.hold("24 a thirteenth of no sum", () -> twelve(), x -> x.entry(1, 2, 5, 100000), -2, 0);
    VoicesLost x = twelve();
    due("24 twelve", x.count(7), 12);
    Calls.dueStatus("24 twelve", x, 1, 0);
    due("24 none behind twelve", x.entry(NONE, 0, 0, 0), 0);
    due("24 room again", x.entry(1, 2, 5, 5), 1);
    VoicesLost ten = Calls.with("members 10");
    due("24 all ten", ten.entry(1023, 0, 10, 0), 1);
    due("24 no eleventh", ten.entry(1024, 0, 0, 0), -2);
    due("24 no eleventh against", ten.entry(0, 1024, 0, 0), -2);
    Calls.dueStatus("24 ten", ten, 2, 0);
  }

  private static VoicesLost twelve() {
    VoicesLost x = Standing.council();
    for (int i = 2; i <= 12; i++) {
      due("24 an entry", x.entry(0, 0, 0, 0), i);
    }
    return x;
  }

  /** Promise 25: most 1 to 6, 5 MEMBERS at most; "-2: none fits; NONE without these". */
  private static void fits() {
    for (int what = 0; what <= 2; what++) {
      int which = what;
      for (int most : new int[] {0, -1, 7, FIRST, LAST}) {
        asked("25 no such most " + most, x -> x.fits(most, 0, which), NONE);
      }
      for (int member : NOT_MEMBERS) {
        asked("25 no member " + member, x -> x.fits(5, member, which), NONE);
      }
      asked("25 none fits", x -> x.fits(3, 0, which), which == 0 ? 0 : -2);
      Standing.askedWithoutCouncil("25 fits", x -> x.fits(1, 0, which), NONE);
      due("25 six members", Calls.with("members 6").fits(1, 0, what), NONE);
      due("25 five members", Calls.with("members 5").fits(1, 4, what), 1);
    }
    for (int what : new int[] {-1, 3, FIRST, LAST}) {
      asked("25 no such " + what, x -> x.fits(5, 0, what), NONE);
    }
    asked("25 just enough", x -> x.fits(4, 2, 0), 4);
    VoicesLost five = Calls.with("members 5");
    int all = 1;
    for (int most = 1; most <= 6; most++) {
      all = most * most * most * most * most;
      due("25 all fit", five.fits(most, 0, 0), all);
      due("25 the least", five.fits(most, 4, 1), 1);
      due("25 the greatest", five.fits(most, 4, 2), most);
    }
    VoicesLost one = Calls.with("members 1");
    due("25 one member", one.fits(6, 0, 0), 6);
    one.entry(1, 0, 6, 0);
    due("25 he has six", one.fits(6, 0, 1) * 10 + one.fits(6, 0, 2), 66);
    due("25 not five", one.fits(5, 0, 2), -2);
    one.entry(1, 0, 1, 0);
    due("25 and one then", one.fits(6, 0, 0), 1);
    one.entry(0, 0, 1, 0);
    due("25 nobody has a sum of 0", one.fits(6, 0, 0), 0);
  }

  /** Promise 26: "NONE without these (as with fits)". */
  private static void tells() {
    for (int what = 0; what <= 1; what++) {
      int which = what;
      for (int most : new int[] {0, -1, 7, FIRST, LAST}) {
        asked("26 no such most " + most, x -> x.tells(most, which), NONE);
      }
      Standing.askedWithoutCouncil("26 tells", x -> x.tells(1, which), NONE);
      due("26 six members", Calls.with("members 6").tells(1, what), NONE);
      due("26 five members", Calls.with("members 5").tells(1, what), 1);
    }
    for (int what : new int[] {-1, 2, FIRST, LAST}) {
      asked("26 no such " + what, x -> x.tells(5, what), NONE);
    }
    asked("26 the third is left", x -> x.tells(5, 0), 4);
    asked("26 and told", x -> x.tells(5, 1), 1);
    asked("26 none fits", x -> x.tells(3, 0), 1);
    asked("26 none of them", x -> x.tells(3, 1), 0);
    VoicesLost one = Calls.with("members 1");
    due("26 one member", one.tells(6, 0) * 10 + one.tells(6, 1), 11);
    one.entry(1, 0, 6, 0);
    due("26 one fits", one.tells(6, 0) * 10 + one.tells(6, 1), 11);
  }

  /** Promise 27: x 0 to 2147483647; "what it was; -2 below 0 (STATUS 0)". */
  private static void seed() {
    due("27 the least", taken("27 seed", x -> x.seed(0), 78).count(8), 0);
    due("27 the greatest", taken("27 seed", x -> x.seed(LAST), 78).count(8), LAST);
    refused("27 below 0", x -> x.seed(-1), 0);
    refused("27 far below 0", x -> x.seed(FIRST), 0);
    Standing.refusedWithoutCouncil("27 below 0", x -> x.seed(-1));
    VoicesLost x = new VoicesLost();
    due("27 0 at first", x.seed(9), 0);
    due("27 without a council", x.seed(8), 9);
    Calls.council(x, "members 1;point 1");
    due("27 it stays", x.count(8), 8);
    x.year(400, 0, 0);
    due("27 behind a year, too", x.count(8), 8);
  }

  /** Promise 28: 1 to 400 VOTES; "-1000000 without these (no POINTS, too)". */
  private static void year() {
    for (int what = 0; what <= 2; what++) {
      int which = what;
      for (int n : new int[] {0, -1, 401, FIRST, LAST}) {
        asked("28 no such year " + n, x -> x.year(n, 0, which), NO_GAIN);
      }
      for (int member : NOT_MEMBERS) {
        asked("28 no member " + member, x -> x.year(1, member, which), NO_GAIN);
      }
      Standing.askedWithoutCouncil("28 year", x -> x.year(1, 0, which), NO_GAIN);
      due("28 no points", Calls.with("members 2").year(1, 0, what), NO_GAIN);
    }
    for (int what : new int[] {-1, 3, FIRST, LAST}) {
      asked("28 no such " + what, x -> x.year(1, 0, what), NO_GAIN);
    }
    asked("28 nothing stays", x -> x.year(400, 0, 2) > 1 ? 1 : 0, 1);
    VoicesLost x = Calls.with("members 2;point 3 -1;voices 2 1");
    due("28 one vote", x.year(1, 0, 0), 3);
    due("28 the greatest behind it", x.year(1, 1, 2), 2);
    VoicesLost all = Calls.with("members 2;point 3 99");
    due("28 four hundred votes", all.year(400, 0, 1), 400);
    due("28 and their gain", all.year(400, 1, 0), 39600);
    due("28 one voice each", all.year(400, 1, 2), 1);
    VoicesLost ties = Calls.with("members 2;point 3 -3;voices 999 999");
    due("28 four hundred ties", ties.year(400, 0, 2), 1399);
    due("28 nothing through", ties.year(400, 0, 1), 0);
    VoicesLost loud = Calls.with("members 2;point 3 0;voices 5 999");
    due("28 behind a vote, not ahead", loud.year(1, 0, 2), 999);
    due("28 a winner has one", Calls.with("members 1;point 3;voices 999").year(1, 0, 2), 1);
    yearDraws();
  }

  /** DRAWS: x goes round at 2147483648; a DRAW is x / 65536, mod POINTS. */
  private static void yearDraws() {
    VoicesLost x = Calls.with("members 1;point 1;point 10;point 99");
    int[] seeds = {0, 1, LAST, 1073741824, LAST - 1};
    for (int seed : seeds) {
      x.seed(seed);
      long next = seed;
      int gain = 0;
      for (int n = 1; n <= 4; n++) {
        next = (next * 1103515245L + 12345L) % 2147483648L;
        gain += x.worth(0, (int) (next / 65536 % 3));
        due("28 draws from " + seed, x.year(n, 0, 0), gain);
      }
    }
    // 2147483647 becomes 1043980748, a draw of 15929, which is 2 mod 3.
    x.seed(LAST);
    due("28 by hand", x.year(1, 0, 0), 99);
    // 0 becomes 12345, a draw of 0.
    x.seed(0);
    due("28 by hand from 0", x.year(1, 0, 0), 1);
  }

  /** Promise 29: "STATUS of a reason (0, 1); NONE for others". */
  private static void status() {
    asked("29 the first", x -> x.status(0), 1);
    asked("29 the second", x -> x.status(1), 0);
    for (int reason : new int[] {-1, 2, FIRST, LAST}) {
      asked("29 no reason " + reason, x -> x.status(reason), NONE);
      Standing.askedWithoutCouncil("29 no reason " + reason, x -> x.status(reason), NONE);
    }
    VoicesLost x = eight();
    for (int i = 1; i <= 30; i++) {
      x.order(0);
      x.order(3);
      Calls.dueStatus("29 each counts", x, 1 + i, i);
    }
  }

  /** Promise 30: "0 without a COUNCIL... NONE for others". */
  private static void count() {
    int[] with = {3, 3, 2, 2, 3, 2, 3, 1, 78, 9, 1, 50};
    int[] without = {0, 0, 1, 0, 0, 0, 0, 0, 5, 9, 0, 0};
    for (int what = 0; what <= 11; what++) {
      int which = what;
      asked("30 count " + what, x -> x.count(which), with[what]);
      Standing.askedWithoutCouncil("30 count " + what, x -> x.count(which), without[what]);
    }
    for (int what : new int[] {-1, 12, FIRST, LAST}) {
      asked("30 no count " + what, x -> x.count(what), NONE);
      Standing.askedWithoutCouncil("30 no count " + what, x -> x.count(what), NONE);
    }
    VoicesLost most = Calls.with("members 10" + ";point 1 1 1 1 1 1 1 1 1 1".repeat(12)
        + ";voices 999 999 999 999 999 999 999 999 999 999");
    due("30 ten members", most.count(0), 10);
    due("30 twelve points", most.count(1), 12);
    due("30 all present", most.count(3), 10);
    due("30 their voices", most.count(4), 9990);
    due("30 the cap at first", most.count(11), 9999);
  }

  /** Promise 31: IMAGES 0 to 3; "turn; -2 without it (STATUS 0)". */
  private static void image() {
    for (int k : new int[] {-1, 4, FIRST, LAST}) {
      refused("31 no image " + k, x -> x.image(k), 0);
      Standing.refusedWithoutCouncil("31 no image " + k, x -> x.image(k));
      refused("32 no image " + k, x -> x.back(k), 0);
      Standing.refusedWithoutCouncil("32 no image " + k, x -> x.back(k));
    }
    VoicesLost x = Calls.with("members 1;point 1");
    for (int k = 0; k < 4; k++) {
      due("31 each by itself", x.image(k), k);
      x.vote(0);
    }
    for (int k = 3; k >= 0; k--) {
      due("31 its own turn", x.back(k), k);
      due("31 is the turn then", x.count(5), k);
    }
    x.vote(0);
    x.vote(0);
    due("31 made anew", x.image(0), 2);
    due("31 the others stay", x.back(3), 3);
    due("31 the new one", x.back(0), 2);
    Calls.dueStatus("31 image", x, 0, 0);
  }

  /** Promise 32: "-2, if it was never made"; all but the TAPE, the RULES and STATUS is as it was. */
  private static void back() {
    for (int k : new int[] {0, 2, 3}) {
      refused("32 never made " + k, x -> x.back(k), 0);
    }
    for (int k : new int[] {0, 1, 3}) {
      Standing.refusedWithoutCouncil("32 never made " + k, x -> x.back(k));
    }
    VoicesLost x = Standing.council();
    due("32 another rule", Calls.rule(x, "no"), 2);
    Calls.lay(x, "no;no");
    due("32 turn", x.back(1), 1);
    int[] counts = {3, 3, 3, 2, 5, 1, 3, 1, 77, 5, 1, 50};
    for (int what = 0; what <= 11; what++) {
      due("32 back: count " + what, x.count(what), counts[what]);
    }
    Calls.dueStatus("32 status stays", x, 1, 0);
    Calls.dueVoices("32 voices", x, 1, 4, 1);
    due("32 won and lost", x.voice(0, 3) * 1000 + x.voice(0, 4) * 100 + x.voice(1, 3) * 10 + x.voice(1, 4), 1001);
    due("32 the tape is read", x.rule(), 3);
    due("32 again, as often as one likes", x.back(1), 1);
    VoicesLost none = Standing.noCouncil();
    due("32 a council", none.council(), 4);
    due("32 back to none", none.back(2), 0);
    due("32 no members", none.count(0), 0);
    due("32 no cap", none.count(11), 0);
    due("32 the rules stay", none.count(2), 1);
    due("32 no council to vote in", none.bench(0, 0), -2);
    Calls.dueStatus("32 none", none, 1, 0);
  }
}
