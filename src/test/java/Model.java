import java.util.ArrayList;
import java.util.Arrays;
import java.util.List;
import java.util.Map;
import java.util.TreeMap;
import java.util.TreeSet;

/** The document once more, as plainly and slowly as can be: what VoicesLost is held against. */
final class Model {
  /** A FAULT, on its way out of a text. */
  static final class Fault extends RuntimeException {
    private static final long serialVersionUID = 1L;
    final int number;

    Fault(int place, int kind) {
      super(null, null, false, false);
      number = 1 + 8 * place + kind;
    }
  }

  interface Node {
    long of(Moment at);
  }

  static final class Clause {
    int saying;
    Node test;
  }

  /** A MEMBER at a POINT. */
  static final class Moment {
    int member;
    int point;
    int[] voices;
    int turn;
    List<Integer> behind = new ArrayList<>();
  }

  static final class Council {
    int members;
    List<int[]> points = new ArrayList<>();
    int[] voices = new int[0];
    int[] bents = new int[0];
    int[] won = new int[0];
    int[] lost = new int[0];
    boolean[] present = new boolean[0];
    int turn;
    int law;
    int cap;
    long x;
    List<Integer> order = new ArrayList<>();
    List<int[]> entries = new ArrayList<>();

    Council copy() {
      Council c = new Council();
      c.members = members;
      c.points = new ArrayList<>(points);
      c.voices = voices.clone();
      c.bents = bents.clone();
      c.won = won.clone();
      c.lost = lost.clone();
      c.present = present.clone();
      c.turn = turn;
      c.law = law;
      c.cap = cap;
      c.x = x;
      c.order = new ArrayList<>(order);
      c.entries = new ArrayList<>(entries);
      return c;
    }
  }

  String tape = "";
  Council s = new Council();
  final List<List<Clause>> rules = new ArrayList<>();
  final int[] status = new int[2];
  final Council[] images = new Council[4];

  // ---- texts

  private String text;
  private int at;
  private int items;

  private static boolean in(char c, char from, char to) {
    return c >= from && c <= to;
  }

  private void blanks() {
    while (at < text.length() && text.charAt(at) == ' ') {
      at++;
    }
  }

  /** The token at the place, without going on: letters, digits, or one sign; "" at the end. */
  private String token() {
    blanks();
    if (at == text.length()) {
      return "";
    }
    int to = at;
    if (in(text.charAt(at), 'a', 'z')) {
      while (to < text.length() && in(text.charAt(to), 'a', 'z')) {
        to++;
      }
    } else if (in(text.charAt(at), '0', '9')) {
      while (to < text.length() && in(text.charAt(to), '0', '9')) {
        to++;
      }
    } else {
      to++;
      if ("<>".indexOf(text.charAt(at)) >= 0 && to < text.length() && text.charAt(to) == '=') {
        to++;
      }
    }
    return text.substring(at, to);
  }

  private boolean take(String what) {
    if (token().equals(what)) {
      at += what.length();
      return true;
    }
    return false;
  }

  private int num(int least, int most) {
    String t = token();
    if (t.isEmpty() || !in(t.charAt(0), '0', '9')) {
      throw new Fault(at, 0);
    }
    if (t.length() > 5 || Integer.parseInt(t) < least || Integer.parseInt(t) > most) {
      throw new Fault(at, 1);
    }
    at += t.length();
    return Integer.parseInt(t);
  }

  private void clauses(int most, Runnable one) {
    int told = 0;
    do {
      blanks();
      told++;
      clauseNumber = told;
      clauseMost = most;
      one.run();
    } while (take(";"));
    if (!token().isEmpty()) {
      throw new Fault(at, 0);
    }
  }

  private int clauseNumber;
  private int clauseMost;
  private Council made;
  private boolean voicesTold;

  private Council readCouncil() {
    text = tape;
    at = 0;
    made = new Council();
    made.cap = 9999;
    voicesTold = false;
    clauses(16, this::councilClause);
    return made;
  }

  private void councilClause() {
    String word = token();
    if (!List.of("members", "point", "voices", "bent").contains(word)) {
      throw new Fault(at, 0);
    }
    boolean bad = clauseNumber > clauseMost;
    bad |= word.equals("members") ? made.members > 0 : made.members == 0;
    bad |= word.equals("voices") && voicesTold;
    bad |= word.equals("point") && made.points.size() == 12;
    if (bad) {
      throw new Fault(at, 4);
    }
    at += word.length();
    if (word.equals("members")) {
      made.members = num(1, 10);
      made.voices = new int[made.members];
      Arrays.fill(made.voices, 1);
      made.bents = new int[made.members];
      Arrays.fill(made.bents, -1);
      made.won = new int[made.members];
      made.lost = new int[made.members];
      made.present = new boolean[made.members];
      Arrays.fill(made.present, true);
    } else if (word.equals("point")) {
      int[] worths = new int[made.members];
      for (int i = 0; i < worths.length; i++) {
        int sign = take("-") ? -1 : take("+") ? 1 : 0;
        if (sign != 0 && at < text.length() && text.charAt(at) == ' ') {
          throw new Fault(at, 0);
        }
        worths[i] = num(0, 99) * (sign == 0 ? 1 : sign);
      }
      made.points.add(worths);
    } else if (word.equals("voices")) {
      voicesTold = true;
      for (int i = 0; i < made.members; i++) {
        made.voices[i] = num(1, 999);
      }
    } else {
      int member = num(0, made.members - 1);
      made.bents[member] = num(0, 5);
    }
  }

  private List<Clause> read;

  private List<Clause> readRule() {
    text = tape;
    at = 0;
    items = 0;
    read = new ArrayList<>();
    clauses(12, this::ruleClause);
    return read;
  }

  private void ruleClause() {
    String word = token();
    int saying = List.of("no", "yes", "keep").indexOf(word);
    if (saying < 0) {
      throw new Fault(at, 0);
    }
    if (clauseNumber > clauseMost) {
      throw new Fault(at, 4);
    }
    at += word.length();
    Clause c = new Clause();
    c.saying = saying;
    if (take("if")) {
      c.test = test(0);
    }
    read.add(c);
  }

  private Node test(int deep) {
    Node left = part(deep);
    while (take("or")) {
      Node a = left;
      Node b = part(deep);
      left = m -> a.of(m) != 0 || b.of(m) != 0 ? 1 : 0;
    }
    return left;
  }

  private Node part(int deep) {
    Node left = fact(deep);
    while (take("and")) {
      Node a = left;
      Node b = fact(deep);
      left = m -> a.of(m) != 0 && b.of(m) != 0 ? 1 : 0;
    }
    return left;
  }

  private Node fact(int deep) {
    String t = token();
    if (t.equals("not") || t.equals("[")) {
      if (deep == 10) {
        throw new Fault(at, 2);
      }
      at += t.length();
      if (t.equals("not")) {
        Node a = fact(deep + 1);
        return m -> a.of(m) == 0 ? 1 : 0;
      }
      Node a = test(deep + 1);
      if (!take("]")) {
        throw new Fault(at, 0);
      }
      return a;
    }
    Node a = sum();
    String sign = token();
    if (!List.of("<", "<=", "=", ">=", ">").contains(sign)) {
      throw new Fault(at, 0);
    }
    if (++items > 60) {
      throw new Fault(at, 3);
    }
    at += sign.length();
    Node b = sum();
    return m -> holds(sign, Long.compare(a.of(m), b.of(m))) ? 1 : 0;
  }

  private static boolean holds(String sign, int compared) {
    switch (sign) {
      case "<": return compared < 0;
      case "<=": return compared <= 0;
      case "=": return compared == 0;
      case ">=": return compared >= 0;
      default: return compared > 0;
    }
  }

  private Node sum() {
    Node left = term();
    while (List.of("+", "-").contains(token())) {
      boolean plus = take("+");
      if (!plus) {
        take("-");
      }
      Node a = left;
      Node b = term();
      left = plus ? m -> a.of(m) + b.of(m) : m -> a.of(m) - b.of(m);
    }
    return left;
  }

  private Node term() {
    Node left = value();
    while (List.of("*", "/").contains(token())) {
      boolean times = take("*");
      if (!times) {
        take("/");
      }
      Node a = left;
      Node b = value();
      left = times ? m -> a.of(m) * b.of(m) : m -> b.of(m) == 0 ? 0 : a.of(m) / b.of(m);
    }
    return left;
  }

  private Node value() {
    String t = token();
    int first = at;
    Node node;
    if (!t.isEmpty() && in(t.charAt(0), '0', '9')) {
      long n = num(0, 99999);
      node = m -> n;
    } else {
      node = word(t);
      if (node == null) {
        throw new Fault(at, 0);
      }
      at += t.length();
    }
    if (++items > 60) {
      throw new Fault(first, 3);
    }
    return node;
  }

  private Node word(String t) {
    switch (t) {
      case "member": return m -> m.member;
      case "point": return m -> m.point;
      case "worth": return m -> worthOf(m.member, m.point);
      case "voices": return m -> m.voices[m.member];
      case "sum": return m -> voicesOf(m, -1) + voicesOf(m, 0) + voicesOf(m, 1);
      case "for": return m -> voicesOf(m, 1);
      case "against": return m -> voicesOf(m, -1);
      case "most": return m -> m.behind.stream()
          .mapToInt(p -> Math.abs(worthOf(m.member, p))).max().orElse(0);
      case "left": return m -> m.behind.size();
      case "turn": return m -> m.turn;
      default: return null;
    }
  }

  private long voicesOf(Moment m, int sign) {
    long sum = 0;
    for (int i = 0; i < s.members; i++) {
      if (s.present[i] && Integer.signum(worthOf(i, m.point)) == sign) {
        sum += m.voices[i];
      }
    }
    return sum;
  }

  private int worthOf(int member, int point) {
    return s.points.get(point)[member];
  }

  // ---- votes

  private boolean isMember(int i) {
    return i >= 0 && i < s.members;
  }

  private boolean isPoint(int i) {
    return i >= 0 && i < s.points.size();
  }

  private boolean isSet(int set) {
    return s.members > 0 && set >= 0 && set >> s.members == 0;
  }

  private boolean isPresentSet(int set) {
    if (!isSet(set) || set == 0) {
      return false;
    }
    for (int i = 0; i < s.members; i++) {
      if ((set >> i & 1) == 1 && !s.present[i]) {
        return false;
      }
    }
    return true;
  }

  private int truly(int member, int point) {
    int w = worthOf(member, point);
    return w > 0 ? 1 : w < 0 ? 0 : 2;
  }

  private int saying(int member, int point, int[] voices, int turn, List<Integer> behind) {
    int bent = s.bents[member];
    if (bent >= 0 && bent < rules.size()) {
      Moment m = new Moment();
      m.member = member;
      m.point = point;
      m.voices = voices;
      m.turn = turn;
      m.behind = behind;
      for (Clause c : rules.get(bent)) {
        if (c.test == null || c.test.of(m) != 0) {
          return c.saying;
        }
      }
    }
    return truly(member, point);
  }

  /** What all say; those who are not there say 2. */
  private int[] sayings(int point, int[] voices, int turn, List<Integer> behind) {
    int[] said = new int[s.members];
    for (int i = 0; i < s.members; i++) {
      said[i] = s.present[i] ? saying(i, point, voices, turn, behind) : 2;
    }
    return said;
  }

  private int outcome(int[] said, int[] voices) {
    int[] sums = new int[3];
    for (int i = 0; i < said.length; i++) {
      sums[said[i]] += voices[i];
    }
    return sums[1] > sums[0] ? 1 : sums[1] < sums[0] ? 0 : 2;
  }

  private void grow(int[] said, int outcome, int[] voices) {
    for (int i = 0; i < said.length; i++) {
      if (said[i] == 2) {
        continue;
      }
      if (said[i] == outcome) {
        voices[i] = s.law == 2 ? Math.max(1, voices[i] / 2) : 1;
      } else {
        voices[i] = Math.min(s.cap, s.law == 1 ? voices[i] * 2 : voices[i] + 1);
      }
    }
  }

  private int real(int[] said) {
    int outcome = outcome(said, s.voices);
    for (int i = 0; i < said.length; i++) {
      if (said[i] != 2) {
        (said[i] == outcome ? s.won : s.lost)[i]++;
      }
    }
    grow(said, outcome, s.voices);
    s.turn++;
    return outcome;
  }

  private static List<Integer> behind(List<Integer> order, int place) {
    return order.subList(place + 1, order.size());
  }

  // ---- the face

  int feed(int a, int b, int c, int d, int e) {
    if (tape.length() + 20 > 400) {
      return -1;
    }
    StringBuilder more = new StringBuilder(tape);
    for (int n : new int[] {a, b, c, d, e}) {
      for (int i = 0; i < 4; i++) {
        more.append((char) (n >>> 24 - 8 * i & 255));
      }
    }
    tape = more.toString();
    return tape.length();
  }

  int end(int n) {
    if (n < 0 || n > tape.length()) {
      return -1;
    }
    tape = tape.substring(0, n);
    return n;
  }

  int council() {
    Council c;
    try {
      c = readCouncil();
    } catch (Fault f) {
      return -2 - f.number;
    }
    c.x = s.x;
    s = c;
    tape = "";
    return s.members;
  }

  int rule() {
    if (rules.size() == 6) {
      return -1;
    }
    try {
      rules.add(readRule());
    } catch (Fault f) {
      return -2 - f.number;
    } finally {
      tape = "";
    }
    return rules.size() - 1;
  }

  int voice(int member, int what) {
    if (!isMember(member)) {
      return -1;
    }
    switch (what) {
      case 0: return s.voices[member];
      case 1: return s.bents[member];
      case 2: return s.present[member] ? 1 : 0;
      case 3: return s.won[member];
      case 4: return s.lost[member];
      default: return -1;
    }
  }

  int worth(int member, int point) {
    return isMember(member) && isPoint(point) ? worthOf(member, point) : -1000;
  }

  private int refuse(int reason) {
    status[reason]++;
    return -2;
  }

  int bend(int member, int rule) {
    if (!isMember(member) || rule < -1 || rule > 5) {
      return refuse(0);
    }
    int was = s.bents[member];
    s.bents[member] = rule;
    return was;
  }

  int attends(int member, boolean is) {
    if (!isMember(member) || s.present[member] == is) {
      return refuse(0);
    }
    s.present[member] = is;
    s.voices[member] = 1;
    return count(3);
  }

  int beside(int law, int cap) {
    if (s.members == 0 || law < 0 || law > 2 || cap < 1 || cap > 9999) {
      return refuse(0);
    }
    int was = s.law;
    s.law = law;
    s.cap = cap;
    return was;
  }

  int says(int member, int point) {
    if (!isMember(member) || !isPoint(point) || !s.present[member]) {
      return -1;
    }
    return saying(member, point, s.voices, s.turn, List.of());
  }

  int vote(int point) {
    if (!isPoint(point)) {
      return refuse(0);
    }
    return real(sayings(point, s.voices, s.turn, List.of()));
  }

  int bench(int yes, int no) {
    if (!isSet(yes) || !isSet(no) || (yes & no) != 0) {
      return refuse(0);
    }
    int[] said = new int[s.members];
    for (int i = 0; i < said.length; i++) {
      said[i] = !s.present[i] ? 2 : (yes >> i & 1) == 1 ? 1 : (no >> i & 1) == 1 ? 0 : 2;
    }
    return real(said);
  }

  int order(int point) {
    if (point == -1) {
      s.order.clear();
      return 0;
    }
    if (!isPoint(point)) {
      return refuse(0);
    }
    if (s.order.size() == 8) {
      return refuse(1);
    }
    s.order.add(point);
    return s.order.size();
  }

  int ordered(int place) {
    return place >= 0 && place < s.order.size() ? s.order.get(place) : -1;
  }

  int day() {
    if (s.members == 0) {
      return refuse(0);
    }
    int through = 0;
    for (int i = 0; i < s.order.size(); i++) {
      int[] said = sayings(s.order.get(i), s.voices, s.turn, behind(s.order, i));
      through += real(said) == 1 ? 1 : 0;
    }
    return through;
  }

  /** GAIN and THROUGH of days. */
  private int[] days(int n, int member, boolean even) {
    int[] voices = s.voices.clone();
    int turn = s.turn;
    int[] result = new int[2];
    if (even) {
      Arrays.fill(voices, 1);
    }
    for (int d = 0; d < n; d++) {
      for (int i = 0; i < s.order.size(); i++) {
        int[] said = sayings(s.order.get(i), voices, turn, behind(s.order, i));
        int outcome = outcome(said, voices);
        if (!even) {
          grow(said, outcome, voices);
        }
        turn++;
        if (outcome == 1) {
          result[0] += worthOf(member, s.order.get(i));
          result[1]++;
        }
      }
    }
    return result;
  }

  int open(int n, int member, int what) {
    if (n < 0 || n > 60 || !isMember(member) || what < 0 || what > 4) {
      return -1000000;
    }
    int[] grown = days(n, member, false);
    int[] even = days(n, member, true);
    return new int[] {grown[0], grown[1], even[0], even[1], grown[0] - even[0]}[what];
  }

  /** The outcome of the last POINT when some are told what to say: forced[place][member], -1 free. */
  private int lastOutcome(int[][] forced) {
    int[] voices = s.voices.clone();
    int outcome = 0;
    for (int i = 0; i < s.order.size(); i++) {
      int[] said = sayings(s.order.get(i), voices, s.turn + i, behind(s.order, i));
      for (int j = 0; j < said.length; j++) {
        said[j] = forced[i][j] >= 0 ? forced[i][j] : said[j];
      }
      outcome = outcome(said, voices);
      grow(said, outcome, voices);
    }
    return outcome;
  }

  private boolean mayPlan(int faction) {
    int size = s.order.size();
    return isPresentSet(faction) && Integer.bitCount(faction) <= 3 && size >= 1 && size <= 4;
  }

  private int[][] free() {
    int[][] forced = new int[s.order.size()][s.members];
    for (int[] row : forced) {
      Arrays.fill(row, -1);
    }
    return forced;
  }

  private int fewest;

  /** All sayings of some, in the document's order, as numbers in base 3. */
  private int[][] thePlan(int faction) {
    int size = Integer.bitCount(faction) * s.order.size();
    int all = (int) Math.round(Math.pow(3, size));
    int[][] best = null;
    fewest = 1000;
    for (int n = 0; n < all; n++) {
      int[][] forced = forcedBy(n, faction);
      int thrown = 0;
      for (int i = 0; i < forced.length; i++) {
        for (int j = 0; j < s.members; j++) {
          if (forced[i][j] >= 0 && forced[i][j] != truly(j, s.order.get(i))) {
            thrown++;
          }
        }
      }
      if (thrown < fewest && lastOutcome(forced) == 1) {
        fewest = thrown;
        best = forced;
      }
    }
    return best;
  }

  private int[][] forcedBy(int n, int faction) {
    int[][] forced = free();
    int rest = n;
    for (int i = forced.length - 1; i >= 0; i--) {
      for (int j = s.members - 1; j >= 0; j--) {
        if ((faction >> j & 1) == 1) {
          forced[i][j] = new int[] {1, 0, 2}[rest % 3];
          rest /= 3;
        }
      }
    }
    return forced;
  }

  int lose(int faction) {
    if (!mayPlan(faction)) {
      return -1;
    }
    return thePlan(faction) == null ? -2 : fewest;
  }

  int plan(int faction, int place, int member) {
    if (!mayPlan(faction) || place < 0 || place >= s.order.size() || !isMember(member)
        || (faction >> member & 1) == 0) {
      return -1;
    }
    int[][] best = thePlan(faction);
    return best == null ? -2 : best[place][member];
  }

  int spoilers(int faction) {
    if (!mayPlan(faction)) {
      return -1;
    }
    int[][] best = thePlan(faction);
    if (best == null) {
      return -2;
    }
    int set = 0;
    for (int j = 0; j < s.members; j++) {
      if (!s.present[j] || (faction >> j & 1) == 1) {
        continue;
      }
      int all = (int) Math.round(Math.pow(3, s.order.size()));
      for (int n = 0; n < all; n++) {
        int[][] forced = new int[best.length][];
        int rest = n;
        for (int i = 0; i < best.length; i++) {
          forced[i] = best[i].clone();
          forced[i][j] = rest % 3;
          rest /= 3;
        }
        if (lastOutcome(forced) != 1) {
          set |= 1 << j;
        }
      }
    }
    return set;
  }

  int sides(int one, int other, int what) {
    int size = s.order.size();
    if (!isPresentSet(one) || !isPresentSet(other) || (one & other) != 0 || size < 1 || size > 4
        || what < 0 || what > 1) {
      return -1000000;
    }
    return best(one, other, 0, s.voices)[what];
  }

  private int[] best(int one, int other, int place, int[] voices) {
    if (place == s.order.size()) {
      return new int[] {0, 0};
    }
    int point = s.order.get(place);
    int[] best = null;
    for (int a : new int[] {1, 0, 2}) {
      int worst = Integer.MAX_VALUE;
      for (int b = 0; b < 3; b++) {
        int[] said = sayings(point, voices, s.turn + place, behind(s.order, place));
        int stake = 0;
        for (int j = 0; j < said.length; j++) {
          if ((one >> j & 1) == 1) {
            said[j] = a;
            stake += worthOf(j, point);
          } else if ((other >> j & 1) == 1) {
            said[j] = b;
            stake -= worthOf(j, point);
          }
        }
        int[] next = voices.clone();
        int outcome = outcome(said, voices);
        grow(said, outcome, next);
        int gain = (outcome == 1 ? stake : 0) + best(one, other, place + 1, next)[0];
        worst = Math.min(worst, gain);
      }
      if (best == null || worst > best[0]) {
        best = new int[] {worst, a};
      }
    }
    return best;
  }

  int chair(int member, boolean isMost, int what) {
    int size = s.order.size();
    if (!isMember(member) || size < 1 || size > 6 || what < 0 || what > size) {
      return -1000000;
    }
    TreeSet<String> rows = new TreeSet<>();
    permute("", s.order, rows);
    String bestRow = null;
    int bestGain = 0;
    for (String row : rows) {
      int gain = gainOf(row, member);
      if (bestRow == null || (isMost ? gain > bestGain : gain < bestGain)) {
        bestRow = row;
        bestGain = gain;
      }
    }
    return what == 0 ? bestGain : bestRow.charAt(what - 1) - 'a';
  }

  private static void permute(String head, List<Integer> rest, TreeSet<String> rows) {
    if (rest.isEmpty()) {
      rows.add(head);
    }
    for (int i = 0; i < rest.size(); i++) {
      List<Integer> less = new ArrayList<>(rest);
      int taken = less.remove(i);
      permute(head + (char) ('a' + taken), less, rows);
    }
  }

  private int gainOf(String row, int member) {
    List<Integer> points = new ArrayList<>();
    for (char c : row.toCharArray()) {
      points.add(c - 'a');
    }
    int[] voices = s.voices.clone();
    int gain = 0;
    for (int i = 0; i < points.size(); i++) {
      int[] said = sayings(points.get(i), voices, s.turn + i, behind(points, i));
      int outcome = outcome(said, voices);
      grow(said, outcome, voices);
      gain += outcome == 1 ? worthOf(member, points.get(i)) : 0;
    }
    return gain;
  }

  int rounds(int what) {
    if (s.members == 0 || s.order.isEmpty() || what < 0 || what > 2 + s.members) {
      return -1;
    }
    List<String> seen = new ArrayList<>();
    List<int[]> counts = new ArrayList<>();
    int[] voices = s.voices.clone();
    seen.add(Arrays.toString(voices));
    for (int d = 1; d <= 300; d++) {
      int[] count = new int[3 + s.members];
      for (int i = 0; i < s.order.size(); i++) {
        int[] said = sayings(s.order.get(i), voices, s.turn, behind(s.order, i));
        int outcome = outcome(said, voices);
        grow(said, outcome, voices);
        count[2] += outcome == 1 ? 1 : 0;
        for (int j = 0; j < s.members; j++) {
          count[3 + j] += said[j] != 2 && said[j] == outcome ? 1 : 0;
        }
      }
      counts.add(count);
      seen.add(Arrays.toString(voices));
    }
    for (int k = 0; k <= 300; k++) {
      for (int j = k + 1; j <= 300; j++) {
        if (seen.get(k).equals(seen.get(j))) {
          int[] sum = new int[3 + s.members];
          sum[0] = k;
          sum[1] = j - k;
          for (int d = k; d < j; d++) {
            for (int i = 2; i < sum.length; i++) {
              sum[i] += counts.get(d)[i];
            }
          }
          return sum[what];
        }
      }
    }
    return -2;
  }

  int entry(int yes, int no, int yesSum, int noSum) {
    if (yes == -1) {
      s.entries.clear();
      return 0;
    }
    boolean sums = yesSum >= 0 && yesSum <= 99999 && noSum >= 0 && noSum <= 99999;
    if (!isSet(yes) || !isSet(no) || (yes & no) != 0 || !sums) {
      return refuse(0);
    }
    if (s.entries.size() == 12) {
      return refuse(1);
    }
    s.entries.add(new int[] {yes, no, yesSum, noSum});
    return s.entries.size();
  }

  /** Begins that fit, each with its end. */
  private List<int[][]> fitting(int most) {
    List<int[][]> fit = new ArrayList<>();
    fillIn(new int[s.members], 0, most, fit);
    return fit;
  }

  private void fillIn(int[] begin, int member, int most, List<int[][]> fit) {
    if (member < s.members) {
      for (int v = 1; v <= most; v++) {
        begin[member] = v;
        fillIn(begin, member + 1, most, fit);
      }
      return;
    }
    int[] voices = begin.clone();
    for (int[] e : s.entries) {
      int[] said = new int[s.members];
      int yes = 0;
      int no = 0;
      for (int i = 0; i < said.length; i++) {
        said[i] = (e[0] >> i & 1) == 1 ? 1 : (e[1] >> i & 1) == 1 ? 0 : 2;
        yes += said[i] == 1 ? voices[i] : 0;
        no += said[i] == 0 ? voices[i] : 0;
      }
      if (yes != e[2] || no != e[3]) {
        return;
      }
      grow(said, outcome(said, voices), voices);
    }
    fit.add(new int[][] {begin.clone(), voices});
  }

  int fits(int most, int member, int what) {
    if (most < 1 || most > 6 || s.members > 5 || !isMember(member) || what < 0 || what > 2) {
      return -1;
    }
    List<int[][]> fit = fitting(most);
    if (what == 0) {
      return fit.size();
    }
    int[] of = fit.stream().mapToInt(f -> f[0][member]).sorted().toArray();
    return of.length == 0 ? -2 : what == 1 ? of[0] : of[of.length - 1];
  }

  int tells(int most, int what) {
    if (most < 1 || most > 6 || s.members == 0 || s.members > 5 || what < 0 || what > 1) {
      return -1;
    }
    List<int[][]> fit = fitting(most);
    int bestSet = 0;
    int bestMost = Integer.MAX_VALUE;
    for (int set = 1; set < 1 << s.members; set++) {
      Map<Integer, Integer> groups = new TreeMap<>();
      for (int[][] f : fit) {
        int sum = 0;
        for (int i = 0; i < s.members; i++) {
          sum += (set >> i & 1) * f[1][i];
        }
        groups.merge(sum, 1, Integer::sum);
      }
      int with = groups.values().stream().mapToInt(n -> n).max().orElse(0);
      if (with < bestMost) {
        bestMost = with;
        bestSet = set;
      }
    }
    return what == 0 ? bestSet : bestMost;
  }

  int seed(int x) {
    if (x < 0) {
      return refuse(0);
    }
    int was = (int) s.x;
    s.x = x;
    return was;
  }

  int year(int n, int member, int what) {
    if (n < 1 || n > 400 || !isMember(member) || s.points.isEmpty() || what < 0 || what > 2) {
      return -1000000;
    }
    java.math.BigInteger x = java.math.BigInteger.valueOf(s.x);
    int[] voices = s.voices.clone();
    int[] result = new int[3];
    for (int i = 0; i < n; i++) {
      x = x.multiply(java.math.BigInteger.valueOf(1103515245)).add(java.math.BigInteger.valueOf(12345))
          .mod(java.math.BigInteger.valueOf(2147483648L));
      int point = (int) (x.longValue() / 65536) % s.points.size();
      int[] said = sayings(point, voices, s.turn + i, List.of());
      int outcome = outcome(said, voices);
      grow(said, outcome, voices);
      if (outcome == 1) {
        result[0] += worthOf(member, point);
        result[1]++;
      }
      result[2] = Math.max(result[2], Arrays.stream(voices).max().orElse(0));
    }
    return result[what];
  }

  int status(int reason) {
    return reason == 0 || reason == 1 ? status[reason] : -1;
  }

  int count(int what) {
    int here = 0;
    int sum = 0;
    for (int i = 0; i < s.members; i++) {
      here += s.present[i] ? 1 : 0;
      sum += s.present[i] ? s.voices[i] : 0;
    }
    int[] all = {s.members, s.points.size(), rules.size(), here, sum, s.turn, s.order.size(),
        s.entries.size(), (int) s.x, tape.length(), s.law, s.cap};
    return what >= 0 && what < all.length ? all[what] : -1;
  }

  int image(int k) {
    if (k < 0 || k > 3) {
      return refuse(0);
    }
    images[k] = s.copy();
    return s.turn;
  }

  int back(int k) {
    if (k < 0 || k > 3 || images[k] == null) {
      return refuse(0);
    }
    s = images[k].copy();
    return s.turn;
  }
}
