/** What the tests share: texts laid on the TAPE, and answers held against those that are due. */
final class Calls {
  private static int wrong = 0;
  private static int all = 0;

  private Calls() {
  }

  static void due(String what, int got, int want) {
    all++;
    if (got != want) {
      wrong++;
      System.out.println(what + " answered " + got + ", due is " + want);
    }
  }

  static void finish() {
    System.out.println(wrong == 0 ? all + " answers are as due" : wrong + " answers are not as due");
    if (wrong != 0) {
      System.exit(1);
    }
  }

  /** The TAPE becomes a text of at most 400 bytes. */
  static void lay(VoicesLost x, String text) {
    x.end(0);
    for (int from = 0; from < text.length(); from += 20) {
      int[] n = new int[5];
      for (int i = 0; i < 20 && from + i < text.length(); i++) {
        n[i / 4] |= (text.charAt(from + i) & 255) << 24 - 8 * (i % 4);
      }
      x.feed(n[0], n[1], n[2], n[3], n[4]);
    }
    x.end(text.length());
  }

  static int council(VoicesLost x, String text) {
    lay(x, text);
    return x.council();
  }

  static int rule(VoicesLost x, String text) {
    lay(x, text);
    return x.rule();
  }

  /** An object with a COUNCIL and RULES; a text that is not taken is told as wrong. */
  static VoicesLost with(String council, String... rules) {
    VoicesLost x = new VoicesLost();
    for (int i = 0; i < rules.length; i++) {
      due("rule " + rules[i], rule(x, rules[i]), i);
    }
    int answer = council(x, council);
    due("council " + council, answer > 0 ? 1 : answer, 1);
    return x;
  }

  static void order(VoicesLost x, int... points) {
    x.order(VoicesLost.NONE);
    for (int i = 0; i < points.length; i++) {
      due("order " + points[i], x.order(points[i]), i + 1);
    }
  }

  static void dueVoices(String what, VoicesLost x, int... voices) {
    for (int i = 0; i < voices.length; i++) {
      due(what + ": voices of " + i, x.voice(i, 0), voices[i]);
    }
  }

  static void dueStatus(String what, VoicesLost x, int notAsTold, int noRoom) {
    due(what + ": status 0", x.status(0), notAsTold);
    due(what + ": status 1", x.status(1), noRoom);
  }
}
