import java.util.function.Supplier;
import java.util.function.ToIntFunction;

/**
 * Objects for the tests of bounds, and all that can be seen of one, so that a call which must change
 * nothing is held against an object that was never called so. Each object is made anew for each
 * call: none has more than the 512 calls for which something is promised.
 */
final class Standing {
  static final int NONE = VoicesLost.NONE;
  static final int NO_GAIN = -1000000;
  static final int FIRST = Integer.MIN_VALUE;
  static final int LAST = Integer.MAX_VALUE;

  private static final Supplier<VoicesLost> COUNCIL = Standing::council;
  private static final Supplier<VoicesLost> NO_COUNCIL = Standing::noCouncil;

  private Standing() {
  }

  /**
   * Three MEMBERS, of whom 2 is not PRESENT, with voices 2 1 1; three POINTS; ORDER 0 1 0; turn 2;
   * one ENTRY, two RULES, IMAGE 1, LAW DOUBLE, CAP 50, x 78, "members 4" on the TAPE; STATUS 1 and 0.
   */
  static VoicesLost council() {
    VoicesLost x = new VoicesLost();
    Calls.rule(x, "yes if left>0");
    Calls.rule(x, "keep");
    Calls.council(x, "members 3;point 5 -3 4;point -2 6 0;point 99 -99 1;voices 7 2 3;bent 1 0;bent 2 4");
    x.seed(77);
    x.beside(1, 50);
    x.attends(2, false);
    x.order(0);
    x.order(1);
    x.order(0);
    x.entry(1, 2, 3, 4);
    x.vote(0);
    x.image(1);
    x.seed(78);
    x.vote(2);
    x.order(9);
    Calls.lay(x, "members 4");
    return x;
  }

  /** No COUNCIL, but a RULE, x 5, IMAGE 2 and a TAPE. */
  static VoicesLost noCouncil() {
    VoicesLost x = new VoicesLost();
    Calls.rule(x, "no");
    x.seed(5);
    x.image(2);
    Calls.lay(x, "members 4");
    return x;
  }

  /** A call that could have changed something, and is refused: -2, nothing changes, STATUS counts it. */
  static void refused(String what, ToIntFunction<VoicesLost> call, int reason) {
    hold(what, COUNCIL, call, -2, reason);
  }

  static void refusedWithoutCouncil(String what, ToIntFunction<VoicesLost> call) {
    hold("without a council: " + what, NO_COUNCIL, call, -2, 0);
  }

  /** A call that changes nothing and is not counted. */
  static void asked(String what, ToIntFunction<VoicesLost> call, int answer) {
    hold(what, COUNCIL, call, answer, NONE);
  }

  static void askedWithoutCouncil(String what, ToIntFunction<VoicesLost> call, int answer) {
    hold("without a council: " + what, NO_COUNCIL, call, answer, NONE);
  }

  /** A call changes nothing that can be seen but STATUS of one reason (NONE: not even that). */
  static void hold(String what, Supplier<VoicesLost> maker, ToIntFunction<VoicesLost> call,
      int answer, int reason) {
    VoicesLost untouched = maker.get();
    VoicesLost called = maker.get();
    Calls.due(what, call.applyAsInt(called), answer);
    for (int i = 0; i < 2; i++) {
      Calls.due(what + ": status " + i, called.status(i), untouched.status(i) + (i == reason ? 1 : 0));
    }
    String before = seen(untouched);
    String after = seen(called);
    Calls.due(what + ": changes\n  " + before + "\n  " + after, before.equals(after) ? 0 : 1, 0);
  }

  /** A call that is taken: STATUS is as it was. */
  static VoicesLost taken(String what, ToIntFunction<VoicesLost> call, int answer) {
    VoicesLost x = council();
    Calls.due(what, call.applyAsInt(x), answer);
    Calls.dueStatus(what, x, 1, 0);
    return x;
  }

  /** All but STATUS; the object is of no use behind it, since it goes back to its IMAGES. */
  static String seen(VoicesLost x) {
    StringBuilder all = new StringBuilder();
    state(x, all);
    for (int k = 0; k < 4; k++) {
      all.append(" | image ").append(k).append(": ").append(x.back(k));
      state(x, all);
    }
    return all.append(" | tape: ").append(x.council()).toString();
  }

  private static void state(VoicesLost x, StringBuilder all) {
    for (int what = 0; what < 12; what++) {
      all.append(what == 0 ? " counts " : ",").append(x.count(what));
    }
    int members = x.count(0);
    int points = x.count(1);
    int ordered = x.count(6);
    for (int member = 0; member < members; member++) {
      all.append(" member ").append(member);
      for (int what = 0; what < 5; what++) {
        all.append(',').append(x.voice(member, what));
      }
      for (int point = 0; point < points; point++) {
        all.append(' ').append(x.worth(member, point)).append('/').append(x.says(member, point));
      }
    }
    for (int place = 0; place < ordered; place++) {
      all.append(place == 0 ? " order " : ",").append(x.ordered(place));
    }
    all.append(" fits ").append(x.fits(5, 0, 0)).append(',').append(x.fits(5, 1, 2));
  }
}
