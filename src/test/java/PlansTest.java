import java.util.Random;

/** THROWN, SPOILERS, SIDES and CHAIR in days that are long for them, held against Model's. */
public final class PlansTest {
  private static final String[] RULES = {
    "yes if voices>turn;no if left>most/3;keep",
    "no if turn=2 or turn=1 and voices>1;yes if for>against",
    "keep if sum>9 and left>0;no if voices*2>sum-voices;yes if most>worth",
    "no if worth>0 and left>0 and voices<3;yes if left=0 and member>1",
    "yes if turn/2*2=turn;no if voices>2;keep if against<for",
    "keep if most>4;no if point=turn",
  };

  private final Random random;
  private final VoicesLost real = new VoicesLost();
  private final Model model = new Model();
  private int members;

  private PlansTest(long seed) {
    random = new Random(seed);
  }

  public static void main(String[] args) {
    int cases = args.length > 0 ? Integer.parseInt(args[0]) : 250;
    for (int i = 0; i < cases; i++) {
      PlansTest one = new PlansTest(i);
      one.tell(i % 25 == 0 ? 4 : 1 + i % 4);
      one.compare(i, i % 25 == 0);
    }
    Calls.finish();
  }

  private int any(int from, int to) {
    return from + random.nextInt(to - from + 1);
  }

  private void tell(int places) {
    for (String rule : RULES) {
      both(rule, false);
    }
    members = any(3, 10);
    StringBuilder text = new StringBuilder("members ").append(members);
    for (int i = 0; i < 4; i++) {
      text.append(";point");
      for (int m = 0; m < members; m++) {
        text.append(' ').append(any(-6, 6));
      }
    }
    text.append(";voices");
    for (int m = 0; m < members; m++) {
      text.append(' ').append(any(1, 4));
    }
    for (int i = 0; i < 5; i++) {
      text.append(";bent ").append(any(0, members - 1)).append(' ').append(any(0, 5));
    }
    both(text.toString(), true);
    for (int i = 0; i < places; i++) {
      int point = any(0, 3);
      Calls.due("order", real.order(point), model.order(point));
    }
    int law = any(0, 2);
    int cap = any(3, 12);
    Calls.due("beside", real.beside(law, cap), model.beside(law, cap));
    if (random.nextBoolean()) {
      Calls.due("bench", real.bench(1, 2), model.bench(1, 2));
    }
  }

  private void both(String text, boolean isCouncil) {
    Calls.lay(real, text);
    model.tape = text;
    if (isCouncil) {
      Calls.due(text, real.council(), model.council());
    } else {
      Calls.due(text, real.rule(), model.rule());
    }
  }

  private void compare(int run, boolean isLong) {
    int faction = 0;
    int size = isLong ? 3 : any(1, 9 / model.s.order.size());
    while (Integer.bitCount(faction) < Math.min(size, 3)) {
      faction |= 1 << any(0, members - 1);
    }
    String of = "case " + run + ", faction " + faction;
    Calls.due(of + ": lose", real.lose(faction), model.lose(faction));
    Calls.due(of + ": spoilers", real.spoilers(faction), model.spoilers(faction));
    for (int m = 0; m < members; m++) {
      int place = any(0, model.s.order.size() - 1);
      if ((faction >> m & 1) == 1) {
        Calls.due(of + ": plan " + place + " " + m,
            real.plan(faction, place, m), model.plan(faction, place, m));
      }
    }
    for (int i = 0; i < 8; i++) {
      int one = any(1, (1 << members) - 2);
      int other = (1 << members) - 1 & ~one & any(1, (1 << members) - 1);
      for (int what = 0; what < 2; what++) {
        Calls.due(of + ": sides " + one + " " + other + " " + what,
            real.sides(one, other, what), model.sides(one, other, what));
      }
    }
    int more = any(0, 6 - model.s.order.size());
    for (int i = 0; i < more; i++) {
      int point = any(0, 3);
      Calls.due("order", real.order(point), model.order(point));
    }
    int member = any(0, members - 1);
    boolean isMost = random.nextBoolean();
    for (int what = 0; what < 7; what++) {
      Calls.due(of + ": chair " + member + " " + isMost + " " + what,
          real.chair(member, isMost, what), model.chair(member, isMost, what));
    }
  }
}
