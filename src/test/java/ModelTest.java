import java.util.ArrayList;
import java.util.List;
import java.util.Random;

/** Long runs of calls by draws (always the same ones): every answer is held against Model's. */
public final class ModelTest {
  private static final int RUNS = 1500;
  private static int wrong = 0;

  private final Random random;
  private VoicesLost real = new VoicesLost();
  private Model model = new Model();
  private final List<String> log = new ArrayList<>();
  private boolean isOff = false;
  private int members = 1;
  private int points = 0;

  private ModelTest(long seed) {
    random = new Random(seed);
  }

  public static void main(String[] args) {
    int runs = args.length > 0 ? Integer.parseInt(args[0]) : RUNS;
    int first = args.length > 1 ? Integer.parseInt(args[1]) : 0;
    for (int run = first; run < first + runs && wrong < 5; run++) {
      new ModelTest(run).play(run);
    }
    System.out.println(wrong == 0 ? runs + " runs are as the model's" : wrong + " runs are off");
    if (wrong != 0) {
      System.exit(1);
    }
  }

  private void play(int run) {
    int calls = 40 + random.nextInt(100);
    if (random.nextInt(4) != 0) {
      tellAll();
    }
    for (int i = 0; i < calls && !isOff; i++) {
      call();
    }
    for (int what = 0; what < 12 && !isOff; what++) {
      same("count " + what, real.count(what), model.count(what));
    }
    for (int m = 0; m < 10 && !isOff; m++) {
      for (int what = 0; what < 5; what++) {
        same("voice " + m + " " + what, real.voice(m, what), model.voice(m, what));
      }
    }
    if (isOff) {
      wrong++;
      System.out.println("run " + run + ":");
      for (String line : log) {
        System.out.println("  " + line);
      }
    }
  }

  private void same(String call, int got, int want) {
    log.add(call + " -> " + got + (got == want ? "" : ", the model says " + want));
    isOff |= got != want;
  }

  private int any(int from, int to) {
    return from + random.nextInt(to - from + 1);
  }

  /** A number that is mostly in what is told, now and then just or far out of it. */
  private int near(int from, int to) {
    int kind = random.nextInt(24);
    if (kind == 0) {
      return random.nextBoolean() ? from - 1 : to + 1;
    }
    if (kind == 1 && random.nextInt(6) == 0) {
      int[] far = {Integer.MIN_VALUE, Integer.MAX_VALUE, -1, 1 << 30, random.nextInt()};
      return far[random.nextInt(far.length)];
    }
    return from > to ? from : any(from, to);
  }

  private void tellAll() {
    int rules = any(0, 4);
    for (int i = 0; i < rules; i++) {
      tell(ruleText(), false);
    }
    tell(councilText(), true);
    int size = any(1, 5);
    for (int i = 0; i < size && points > 0; i++) {
      int point = any(0, points - 1);
      same("order " + point, real.order(point), model.order(point));
    }
  }

  private void tell(String text, boolean isCouncil) {
    same("end 0", real.end(0), model.end(0));
    lay(text);
    if (isCouncil) {
      same("council '" + text + "'", real.council(), model.council());
      members = Math.max(1, model.s.members);
      points = model.s.points.size();
    } else {
      same("rule '" + text + "'", real.rule(), model.rule());
    }
    same("tape behind '" + text + "'", real.count(9), model.count(9));
  }

  private void lay(String text) {
    int size = Math.min(text.length(), 400);
    for (int from = 0; from < size; from += 20) {
      int[] n = new int[5];
      for (int i = 0; i < 20; i++) {
        int b = from + i < size ? text.charAt(from + i) & 255 : random.nextInt(256);
        n[i / 4] |= b << 24 - 8 * (i % 4);
      }
      same("feed", real.feed(n[0], n[1], n[2], n[3], n[4]), model.feed(n[0], n[1], n[2], n[3], n[4]));
    }
    same("end " + size, real.end(size), model.end(size));
  }

  private int set() {
    return near(0, (1 << members) - 1);
  }

  private int smallSet() {
    int set = 0;
    int size = any(1, 3);
    for (int i = 0; i < size; i++) {
      set |= 1 << any(0, members - 1);
    }
    return random.nextInt(20) == 0 ? set() : set;
  }

  private void call() {
    int member = near(0, members - 1);
    int point = near(0, points - 1);
    switch (random.nextInt(30)) {
      case 0: tell(spoilt(councilText()), true); break;
      case 1: tell(spoilt(ruleText()), false); break;
      case 2: voiceOrWorth(member, point); break;
      case 3: bendOne(member); break;
      case 4: attendOne(member); break;
      case 5: besideOne(); break;
      case 6: case 7:
        same("says " + member + " " + point, real.says(member, point), model.says(member, point));
        break;
      case 8: case 9: same("vote " + point, real.vote(point), model.vote(point)); break;
      case 10: benchOne(); break;
      case 11: case 12: orderOne(point); break;
      case 13: case 14: same("day", real.day(), model.day()); break;
      case 15: openOne(member); break;
      case 16: case 17: throwOne(member); break;
      case 18: sidesOne(); break;
      case 19: chairOne(member); break;
      case 20: case 21: roundsOne(); break;
      case 22: entryOne(); break;
      case 23: case 24: booksOne(member); break;
      case 25: seedOne(); break;
      case 26: yearOne(member); break;
      case 27: countOne(); break;
      case 28: imageOne(); break;
      default: trueEntry(); break;
    }
  }

  private void voiceOrWorth(int member, int point) {
    int what = near(0, 4);
    same("voice " + member + " " + what, real.voice(member, what), model.voice(member, what));
    same("worth " + member + " " + point, real.worth(member, point), model.worth(member, point));
  }

  private void bendOne(int member) {
    int rule = near(-1, 5);
    same("bend " + member + " " + rule, real.bend(member, rule), model.bend(member, rule));
  }

  private void attendOne(int member) {
    boolean is = random.nextInt(3) != 0;
    same("attends " + member + " " + is, real.attends(member, is), model.attends(member, is));
  }

  private void besideOne() {
    int law = near(0, 2);
    int cap = random.nextBoolean() ? near(1, 9) : near(1, 9999);
    same("beside " + law + " " + cap, real.beside(law, cap), model.beside(law, cap));
  }

  private void benchOne() {
    int yes = set();
    int no = random.nextInt(5) == 0 ? set() : set() & ~yes;
    same("bench " + yes + " " + no, real.bench(yes, no), model.bench(yes, no));
  }

  private void orderOne(int point) {
    int what = random.nextInt(6) == 0 ? -1 : point;
    same("order " + what, real.order(what), model.order(what));
    int place = near(0, 7);
    same("ordered " + place, real.ordered(place), model.ordered(place));
  }

  private void openOne(int member) {
    int n = near(0, 60);
    int what = near(0, 4);
    same("open " + n + " " + member + " " + what, real.open(n, member, what), model.open(n, member, what));
  }

  private void throwOne(int member) {
    int faction = smallSet();
    if (Integer.bitCount(faction) * model.s.order.size() > 8 && random.nextInt(60) != 0) {
      faction &= -faction;
    }
    int place = near(0, model.s.order.size() - 1);
    same("lose " + faction, real.lose(faction), model.lose(faction));
    same("plan " + faction + " " + place + " " + member,
        real.plan(faction, place, member), model.plan(faction, place, member));
    int first = Integer.numberOfTrailingZeros(faction);
    same("plan " + faction + " " + place + " " + first,
        real.plan(faction, place, first), model.plan(faction, place, first));
    same("spoilers " + faction, real.spoilers(faction), model.spoilers(faction));
  }

  private void sidesOne() {
    int one = set();
    int other = random.nextInt(9) == 0 ? set() : set() & ~one;
    int what = near(0, 1);
    same("sides " + one + " " + other + " " + what,
        real.sides(one, other, what), model.sides(one, other, what));
  }

  private void chairOne(int member) {
    boolean isMost = random.nextBoolean();
    int what = near(0, 6);
    same("chair " + member + " " + isMost + " " + what,
        real.chair(member, isMost, what), model.chair(member, isMost, what));
    same("chair " + member + " " + isMost + " 0",
        real.chair(member, isMost, 0), model.chair(member, isMost, 0));
  }

  private void roundsOne() {
    int what = near(0, 2 + members);
    same("rounds " + what, real.rounds(what), model.rounds(what));
  }

  private void entryOne() {
    int yes = random.nextInt(4) == 0 ? -1 : set();
    int no = random.nextInt(6) == 0 ? set() : set() & ~yes;
    int yesSum = random.nextInt(9) == 0 ? near(0, 99999) : any(0, 12);
    int noSum = random.nextInt(9) == 0 ? near(0, 99999) : any(0, 12);
    same("entry " + yes + " " + no + " " + yesSum + " " + noSum,
        real.entry(yes, no, yesSum, noSum), model.entry(yes, no, yesSum, noSum));
  }

  /** ENTRIES that fit, as they are from small voices. */
  private void trueEntry() {
    int size = model.s.members;
    if (size == 0 || size > 5) {
      return;
    }
    same("entry none", real.entry(-1, 0, 0, 0), model.entry(-1, 0, 0, 0));
    int[] voices = new int[size];
    for (int i = 0; i < size; i++) {
      voices[i] = any(1, 4);
    }
    int entries = any(0, 12);
    for (int e = 0; e < entries; e++) {
      int yes = any(0, (1 << size) - 1);
      int no = any(0, (1 << size) - 1) & ~yes;
      int yesSum = 0;
      int noSum = 0;
      for (int i = 0; i < size; i++) {
        yesSum += (yes >> i & 1) * voices[i];
        noSum += (no >> i & 1) * voices[i];
      }
      same("entry " + yes + " " + no + " " + yesSum + " " + noSum,
          real.entry(yes, no, yesSum, noSum), model.entry(yes, no, yesSum, noSum));
      for (int i = 0; i < size; i++) {
        if ((yes >> i & 1) == 1 || (no >> i & 1) == 1) {
          boolean isWon = yesSum != noSum && (yes >> i & 1) == 1 == yesSum > noSum;
          int less = model.s.law == 2 ? Math.max(1, voices[i] / 2) : 1;
          int more = model.s.law == 1 ? 2 * voices[i] : voices[i] + 1;
          voices[i] = isWon ? less : Math.min(model.s.cap, more);
        }
      }
    }
    booksOne(any(0, size - 1));
  }

  private void booksOne(int member) {
    int most = near(1, 6);
    for (int what = 0; what < 3; what++) {
      same("fits " + most + " " + member + " " + what,
          real.fits(most, member, what), model.fits(most, member, what));
    }
    int what = near(0, 1);
    same("tells " + most + " " + what, real.tells(most, what), model.tells(most, what));
    same("tells " + most + " 0", real.tells(most, 0), model.tells(most, 0));
  }

  private void seedOne() {
    int x = random.nextInt();
    x = random.nextInt(5) == 0 ? x : x & 2147483647;
    same("seed " + x, real.seed(x), model.seed(x));
  }

  private void yearOne(int member) {
    int n = near(1, 400);
    int what = near(0, 2);
    same("year " + n + " " + member + " " + what, real.year(n, member, what), model.year(n, member, what));
  }

  private void countOne() {
    int what = near(0, 11);
    same("count " + what, real.count(what), model.count(what));
    int reason = near(0, 1);
    same("status " + reason, real.status(reason), model.status(reason));
    int n = near(0, 400);
    same("end " + n, real.end(n), model.end(n));
  }

  private void imageOne() {
    int k = near(0, 3);
    if (random.nextBoolean()) {
      same("image " + k, real.image(k), model.image(k));
    } else {
      same("back " + k, real.back(k), model.back(k));
      members = Math.max(1, model.s.members);
      points = model.s.points.size();
    }
  }

  // ---- texts

  private String gap() {
    return " ".repeat(random.nextInt(5) == 0 ? any(2, 3) : random.nextInt(2));
  }

  private String spoilt(String text) {
    if (random.nextInt(3) != 0 || text.isEmpty()) {
      return text;
    }
    int place = random.nextInt(text.length());
    String signs = " ;+-*/<=>[]0123456789aymnopv" + (char) 0 + (char) 200 + (char) 255;
    char sign = signs.charAt(random.nextInt(signs.length()));
    switch (random.nextInt(4)) {
      case 0: return text.substring(0, place) + sign + text.substring(place + 1);
      case 1: return text.substring(0, place) + sign + text.substring(place);
      case 2: return text.substring(0, place) + text.substring(place + 1);
      default: return text.substring(0, place);
    }
  }

  private String councilText() {
    int size = any(1, 10);
    size = random.nextInt(3) == 0 ? size : Math.min(size, any(2, 6));
    StringBuilder text = new StringBuilder();
    text.append(gap()).append("members").append(gap()).append(size);
    int clauses = random.nextInt(8) == 0 ? any(0, 17) : any(1, 7);
    for (int i = 0; i < clauses; i++) {
      text.append(gap()).append(';').append(gap());
      int kind = random.nextInt(10);
      if (kind < 6) {
        text.append("point");
        for (int m = 0; m < size; m++) {
          int worth = random.nextInt(5) == 0 ? any(0, 99) : any(0, 9);
          text.append(gap()).append(new String[] {"+", "-", " "}[random.nextInt(3)]).append(worth);
        }
      } else if (kind == 6) {
        text.append("voices");
        for (int m = 0; m < size; m++) {
          text.append(' ').append(gap()).append(random.nextInt(9) == 0 ? any(1, 999) : any(1, 5));
        }
      } else {
        text.append("bent").append(gap()).append(any(0, size - 1)).append(' ').append(any(0, 5));
      }
    }
    return text.append(gap()).toString();
  }

  private String ruleText() {
    StringBuilder text = new StringBuilder(gap());
    int clauses = random.nextInt(10) == 0 ? any(8, 13) : any(1, 3);
    for (int i = 0; i < clauses; i++) {
      text.append(i == 0 ? "" : ";").append(gap());
      text.append(new String[] {"yes", "no", "keep"}[random.nextInt(3)]);
      if (random.nextInt(4) != 0) {
        text.append(" if ");
        test(text, random.nextInt(5) == 0 ? 11 : 2);
      }
      text.append(gap());
    }
    return text.toString();
  }

  private void test(StringBuilder text, int deep) {
    int facts = random.nextInt(12) == 0 ? any(3, 22) : any(1, 2);
    for (int i = 0; i < facts; i++) {
      if (i > 0) {
        text.append(random.nextBoolean() ? " and " : " or ");
      }
      fact(text, deep);
    }
  }

  private void fact(StringBuilder text, int deep) {
    int kind = random.nextInt(deep > 3 ? 3 : 6);
    if (deep > 0 && kind == 0) {
      text.append("not ").append(gap());
      fact(text, deep - 1);
    } else if (deep > 0 && kind == 1) {
      text.append('[').append(gap());
      if (deep > 3) {
        fact(text, deep - 1);
      } else {
        test(text, deep - 1);
      }
      text.append(gap()).append(']');
    } else {
      sum(text);
      text.append(gap()).append(new String[] {"<", "<=", "=", ">=", ">"}[random.nextInt(5)]).append(gap());
      sum(text);
    }
  }

  private void sum(StringBuilder text) {
    int values = random.nextInt(3) == 0 ? any(2, 4) : 1;
    for (int i = 0; i < values; i++) {
      if (i > 0) {
        text.append(gap()).append("+-*/".charAt(random.nextInt(4))).append(gap());
      }
      String[] words = {"member", "point", "worth", "voices", "sum", "for", "against", "most", "left", "turn"};
      if (random.nextInt(3) == 0) {
        text.append(random.nextInt(9) == 0 ? any(0, 99999) : any(0, 9));
      } else {
        text.append(words[random.nextInt(words.length)]);
      }
    }
  }
}
