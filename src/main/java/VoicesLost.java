/**
 * As many voices as votes lost: a council whose members have one voice more for each vote
 * they lose, and one again as soon as they win. The promises stand in ../shared/DOC.md.
 */
public final class VoicesLost {
  public static final int NONE = -1;

  private static final int CANNOT = -2;
  private static final int NO_WORTH = -1000;
  private static final int NO_GAIN = -1000000;

  private static final int MOST_BYTES = 400;
  private static final int MOST_MEMBERS = 10;
  private static final int MOST_POINTS = 12;
  private static final int MOST_RULES = 6;
  private static final int MOST_IN_ORDER = 8;
  private static final int MOST_ENTRIES = 12;
  private static final int MOST_IMAGES = 4;
  private static final int MOST_VOICES = 9999;
  private static final int MOST_SUM = 99999;
  /** Further than any GAIN. */
  private static final int FAR = 1000000000;

  private static final int NO = 0;
  private static final int YES = 1;
  private static final int STILL = 2;
  /** What may be said, in the order in which the document looks at it. */
  private static final int[] SAYINGS = {YES, NO, STILL};

  private static final int THROUGH = 1;
  private static final int EQUAL = 2;

  private static final int PLAIN = 0;
  private static final int DOUBLE = 1;
  private static final int HALF = 2;

  private static final int NOT_AS_TOLD = 0;
  private static final int NO_ROOM = 1;

  private final byte[] tape = new byte[MOST_BYTES];
  private int bytes;
  private final int[] refused = new int[2];
  private final State now;
  private final State[] images = new State[MOST_IMAGES];
  private final Rule[] rules;
  private int told;
  private final CouncilText councilText;
  private final RuleText ruleText;
  private final Hall hall;
  private final Course course;
  private final Planner planner;
  private final Duel duel;
  private final Chairman chairman;
  private final Books books;

  public VoicesLost() {
    State state = new State();
    Rule[] rows = new Rule[MOST_RULES];
    Hall place = new Hall(state, rows);
    now = state;
    rules = rows;
    hall = place;
    councilText = new CouncilText();
    ruleText = new RuleText();
    course = new Course(state, place);
    planner = new Planner(state, place);
    duel = new Duel(state, place);
    chairman = new Chairman(state, place);
    books = new Books(state, place);
  }

  public int feed(int a, int b, int c, int d, int e) {
    if (bytes + 20 > MOST_BYTES) {
      return NONE;
    }
    lay(a);
    lay(b);
    lay(c);
    lay(d);
    lay(e);
    return bytes;
  }

  private void lay(int number) {
    for (int shift = 24; shift >= 0 && bytes < MOST_BYTES; shift -= 8) {
      tape[bytes] = (byte) (number >> shift);
      bytes++;
    }
  }

  public int end(int n) {
    if (n < 0 || n > bytes) {
      return NONE;
    }
    bytes = n;
    return n;
  }

  public int council() {
    int fault = councilText.read(tape, bytes);
    if (fault != 0) {
      return -2 - fault;
    }
    int x = now.x;
    now.takeFrom(councilText.draft);
    now.x = x;
    bytes = 0;
    return now.members;
  }

  public int rule() {
    if (told >= MOST_RULES) {
      return NONE;
    }
    int fault = ruleText.read(tape, bytes);
    bytes = 0;
    if (fault != 0) {
      return -2 - fault;
    }
    rules[told] = new Rule(ruleText.code, ruleText.size);
    told++;
    return told - 1;
  }

  public int voice(int member, int what) {
    if (!now.hasMember(member)) {
      return NONE;
    }
    switch (what) {
      case 0: return now.voices[member];
      case 1: return now.bents[member];
      case 2: return now.present >> member & 1;
      case 3: return now.won[member];
      case 4: return now.lost[member];
      default: return NONE;
    }
  }

  public int worth(int member, int point) {
    return now.hasMember(member) && now.hasPoint(point) ? now.worthOf(member, point) : NO_WORTH;
  }

  public int bend(int member, int rule) {
    if (!now.hasMember(member) || rule < NONE || rule >= MOST_RULES) {
      return refuse(NOT_AS_TOLD);
    }
    int was = now.bents[member];
    now.bents[member] = rule;
    return was;
  }

  public int attends(int member, boolean is) {
    if (!now.hasMember(member) || now.isPresent(member) == is) {
      return refuse(NOT_AS_TOLD);
    }
    now.present ^= 1 << member;
    now.voices[member] = 1;
    return Integer.bitCount(now.present);
  }

  public int beside(int law, int cap) {
    boolean isTold = law >= PLAIN && law <= HALF && cap >= 1 && cap <= MOST_VOICES;
    if (!now.hasCouncil() || !isTold) {
      return refuse(NOT_AS_TOLD);
    }
    int was = now.law;
    now.law = law;
    now.cap = cap;
    return was;
  }

  public int says(int member, int point) {
    if (!now.hasMember(member) || !now.isPresent(member) || !now.hasPoint(point)) {
      return NONE;
    }
    hall.bringAlone(point, now.voices, now.turn);
    hall.ask(1 << member);
    return hall.yes != 0 ? YES : hall.no != 0 ? NO : STILL;
  }

  public int vote(int point) {
    if (!now.hasPoint(point)) {
      return refuse(NOT_AS_TOLD);
    }
    hall.bringAlone(point, now.voices, now.turn);
    hall.ask(now.present);
    return hall.holdForGood(hall.yes, hall.no);
  }

  public int bench(int yes, int no) {
    if (!now.hasSet(yes) || !now.hasSet(no) || (yes & no) != 0) {
      return refuse(NOT_AS_TOLD);
    }
    return hall.holdForGood(yes & now.present, no & now.present);
  }

  public int order(int point) {
    if (point == NONE) {
      now.ordered = 0;
      return 0;
    }
    if (!now.hasPoint(point)) {
      return refuse(NOT_AS_TOLD);
    }
    if (now.ordered >= MOST_IN_ORDER) {
      return refuse(NO_ROOM);
    }
    now.row[now.ordered] = point;
    now.ordered++;
    return now.ordered;
  }

  public int ordered(int place) {
    return now.hasPlace(place) ? now.row[place] : NONE;
  }

  public int day() {
    if (!now.hasCouncil()) {
      return refuse(NOT_AS_TOLD);
    }
    int through = 0;
    for (int place = 0; place < now.ordered; place++) {
      hall.bring(now.row, place, now.ordered, now.voices, now.turn);
      hall.ask(now.present);
      if (hall.holdForGood(hall.yes, hall.no) == THROUGH) {
        through++;
      }
    }
    return through;
  }

  public int open(int n, int member, int what) {
    if (n < 0 || n > 60 || !now.hasMember(member) || what < 0 || what > 4) {
      return NO_GAIN;
    }
    course.runDays(n, member, what == 2 || what == 3);
    if (what == 1 || what == 3) {
      return course.through;
    }
    int gain = course.gain;
    if (what == 4) {
      course.runDays(n, member, true);
      gain -= course.gain;
    }
    return gain;
  }

  public int lose(int faction) {
    if (!mayThrow(faction)) {
      return NONE;
    }
    return planner.search(faction) ? planner.fewest : CANNOT;
  }

  public int plan(int faction, int place, int member) {
    boolean isThere = mayThrow(faction) && now.hasPlace(place) && now.hasMember(member);
    if (!isThere || (faction >> member & 1) == 0) {
      return NONE;
    }
    return planner.search(faction) ? planner.sayingAt(place, member) : CANNOT;
  }

  public int spoilers(int faction) {
    if (!mayThrow(faction)) {
      return NONE;
    }
    return planner.search(faction) ? planner.spoilingSet() : CANNOT;
  }

  private boolean mayThrow(int faction) {
    return now.isSide(faction) && Integer.bitCount(faction) <= 3 && now.isShortDay();
  }

  public int sides(int one, int other, int what) {
    boolean areSides = now.isSide(one) && now.isSide(other) && (one & other) == 0;
    if (!areSides || !now.isShortDay() || what < 0 || what > 1) {
      return NO_GAIN;
    }
    int gain = duel.fight(one, other);
    return what == 0 ? gain : duel.opening;
  }

  public int chair(int member, boolean isMost, int what) {
    boolean isDay = now.ordered >= 1 && now.ordered <= Chairman.MOST;
    if (!now.hasMember(member) || !isDay || what < 0 || what > now.ordered) {
      return NO_GAIN;
    }
    chairman.seek(member, isMost);
    return what == 0 ? chairman.gainFound() : chairman.pointAt(what - 1);
  }

  public int rounds(int what) {
    if (now.ordered < 1 || what < 0 || what >= 3 + now.members) {
      return NONE;
    }
    if (!course.seekRound()) {
      return CANNOT;
    }
    switch (what) {
      case 0: return course.leadIn;
      case 1: return course.length;
      case 2: return course.through;
      default: return course.wins[what - 3];
    }
  }

  public int entry(int yes, int no, int yesSum, int noSum) {
    if (yes == NONE) {
      now.entries = 0;
      return 0;
    }
    boolean areSets = now.hasSet(yes) && now.hasSet(no) && (yes & no) == 0;
    if (!areSets || !isSum(yesSum) || !isSum(noSum)) {
      return refuse(NOT_AS_TOLD);
    }
    if (now.entries >= MOST_ENTRIES) {
      return refuse(NO_ROOM);
    }
    now.write(yes, no, yesSum, noSum);
    return now.entries;
  }

  private static boolean isSum(int sum) {
    return sum >= 0 && sum <= MOST_SUM;
  }

  public int fits(int most, int member, int what) {
    if (!isForBooks(most) || !now.hasMember(member) || what < 0 || what > 2) {
      return NONE;
    }
    books.search(most, false);
    if (what == 0) {
      return books.found;
    }
    if (books.found == 0) {
      return CANNOT;
    }
    return what == 1 ? books.least[member] : books.greatest[member];
  }

  public int tells(int most, int what) {
    if (!isForBooks(most) || what < 0 || what > 1) {
      return NONE;
    }
    books.search(most, true);
    books.seekTelling();
    return what == 0 ? books.bestSet : books.bestMost;
  }

  private boolean isForBooks(int most) {
    return now.hasCouncil() && now.members <= Books.MOST && most >= 1 && most <= 6;
  }

  public int seed(int x) {
    if (x < 0) {
      return refuse(NOT_AS_TOLD);
    }
    int was = now.x;
    now.x = x;
    return was;
  }

  public int year(int n, int member, int what) {
    boolean isThere = now.hasMember(member) && now.points > 0;
    if (!isThere || n < 1 || n > 400 || what < 0 || what > 2) {
      return NO_GAIN;
    }
    course.runYear(n, member);
    switch (what) {
      case 0: return course.gain;
      case 1: return course.through;
      default: return course.loudest;
    }
  }

  public int status(int reason) {
    return reason >= 0 && reason < refused.length ? refused[reason] : NONE;
  }

  private int refuse(int reason) {
    if (reason >= 0 && reason < refused.length) {
      refused[reason]++;
    }
    return CANNOT;
  }

  public int count(int what) {
    switch (what) {
      case 0: return now.members;
      case 1: return now.points;
      case 2: return told;
      case 3: return Integer.bitCount(now.present);
      case 4: return now.sumOf(now.voices, now.present);
      case 5: return now.turn;
      case 6: return now.ordered;
      case 7: return now.entries;
      case 8: return now.x;
      case 9: return bytes;
      case 10: return now.law;
      case 11: return now.cap;
      default: return NONE;
    }
  }

  public int image(int k) {
    if (k < 0 || k >= MOST_IMAGES) {
      return refuse(NOT_AS_TOLD);
    }
    if (images[k] == null) {
      images[k] = new State();
    }
    images[k].takeFrom(now);
    return now.turn;
  }

  public int back(int k) {
    if (k < 0 || k >= MOST_IMAGES || images[k] == null) {
      return refuse(NOT_AS_TOLD);
    }
    now.takeFrom(images[k]);
    return now.turn;
  }

  /** All that an IMAGE keeps: the COUNCIL, how it stands, its ORDER, its BOOKS and x. */
  private static final class State {
    private static final int ENTRY_SIZE = 4;

    int members;
    int points;
    int present;
    int turn;
    int law;
    int cap;
    int x;
    int ordered;
    int entries;
    final int[] worths = new int[MOST_POINTS * MOST_MEMBERS];
    final int[] voices = new int[MOST_MEMBERS];
    final int[] bents = new int[MOST_MEMBERS];
    final int[] won = new int[MOST_MEMBERS];
    final int[] lost = new int[MOST_MEMBERS];
    final int[] row = new int[MOST_IN_ORDER];
    final int[] written = new int[MOST_ENTRIES * ENTRY_SIZE];

    void makeFresh() {
      members = 0;
      points = 0;
      present = 0;
      turn = 0;
      law = PLAIN;
      cap = MOST_VOICES;
      ordered = 0;
      entries = 0;
      for (int member = 0; member < MOST_MEMBERS; member++) {
        voices[member] = 1;
        bents[member] = NONE;
        won[member] = 0;
        lost[member] = 0;
      }
    }

    void takeFrom(State other) {
      members = other.members;
      points = other.points;
      present = other.present;
      turn = other.turn;
      law = other.law;
      cap = other.cap;
      x = other.x;
      ordered = other.ordered;
      entries = other.entries;
      System.arraycopy(other.worths, 0, worths, 0, worths.length);
      System.arraycopy(other.voices, 0, voices, 0, MOST_MEMBERS);
      System.arraycopy(other.bents, 0, bents, 0, MOST_MEMBERS);
      System.arraycopy(other.won, 0, won, 0, MOST_MEMBERS);
      System.arraycopy(other.lost, 0, lost, 0, MOST_MEMBERS);
      System.arraycopy(other.row, 0, row, 0, MOST_IN_ORDER);
      System.arraycopy(other.written, 0, written, 0, written.length);
    }

    boolean hasCouncil() {
      return members > 0;
    }

    boolean hasMember(int member) {
      return member >= 0 && member < members;
    }

    boolean hasPoint(int point) {
      return point >= 0 && point < points;
    }

    boolean hasPlace(int place) {
      return place >= 0 && place < ordered;
    }

    /** Sets are bits; without a COUNCIL there is not even the empty one. */
    boolean hasSet(int set) {
      return members > 0 && set >= 0 && set < 1 << members;
    }

    boolean isSide(int set) {
      return set > 0 && hasSet(set) && (set & ~present) == 0;
    }

    boolean isShortDay() {
      return ordered >= 1 && ordered <= 4;
    }

    boolean isPresent(int member) {
      return (present >> member & 1) == 1;
    }

    int worthOf(int member, int point) {
      return worths[point * MOST_MEMBERS + member];
    }

    int worthOfSet(int set, int point) {
      int sum = 0;
      for (int member = 0; member < members; member++) {
        if ((set >> member & 1) == 1) {
          sum += worthOf(member, point);
        }
      }
      return sum;
    }

    int sumOf(int[] held, int set) {
      int sum = 0;
      for (int member = 0; member < members; member++) {
        if ((set >> member & 1) == 1) {
          sum += held[member];
        }
      }
      return sum;
    }

    void write(int yes, int no, int yesSum, int noSum) {
      int at = entries * ENTRY_SIZE;
      if (at + ENTRY_SIZE <= written.length) {
        written[at] = yes;
        written[at + 1] = no;
        written[at + 2] = yesSum;
        written[at + 3] = noSum;
        entries++;
      }
    }
  }

  /** A text that is walked along, till its end or its first FAULT. */
  private abstract static class Text {
    static final int WRONG = 0;
    static final int BAD_NUMBER = 1;
    static final int TOO_DEEP = 2;
    static final int TOO_MANY = 3;
    static final int BAD_CLAUSE = 4;
    private static final int MOST_DIGITS = 5;

    private byte[] text;
    private int length;
    int at;
    int fault;
    private int wordEnd;

    void begin(byte[] given, int size) {
      text = given;
      length = given == null ? 0 : Math.min(size, given.length);
      at = 0;
      fault = 0;
    }

    /** The first FAULT stays: what is found behind it, or at the same place later, is worse. */
    void fail(int place, int kind) {
      if (fault == 0) {
        fault = 1 + 8 * place + kind;
      }
    }

    /** The byte here; NONE at the end (bytes above 127 are no signs either). */
    int here() {
      return at >= 0 && at < length ? text[at] : NONE;
    }

    int hereBehindBlanks() {
      while (at < length && text[at] == ' ') {
        at++;
      }
      return here();
    }

    boolean isDigitHere() {
      return at < length && text[at] >= '0' && text[at] <= '9';
    }

    /** Which of some words (each with a blank behind it) is the whole word here. */
    int whichWord(String words) {
      int end = at;
      while (end < length && text[end] >= 'a' && text[end] <= 'z') {
        end++;
      }
      wordEnd = end;
      int which = 0;
      int letter = at;
      for (int i = 0; i < words.length(); i++) {
        char sign = words.charAt(i);
        if (sign == ' ') {
          if (letter == end) {
            return which;
          }
          which++;
          letter = at;
        } else if (letter >= at) {
          letter = letter < end && text[letter] == sign ? letter + 1 : NONE;
        }
      }
      return NONE;
    }

    void passWord() {
      at = wordEnd;
    }

    int number(int least, int most) {
      int first = at;
      int value = 0;
      while (at < length && isDigitHere()) {
        if (at - first < MOST_DIGITS) {
          value = value * 10 + text[at] - '0';
        }
        at++;
      }
      if (at == first) {
        fail(first, WRONG);
      } else if (at - first > MOST_DIGITS || value < least || value > most) {
        fail(first, BAD_NUMBER);
      }
      return value;
    }

    /** Whether another CLAUSE is announced here; a FAULT unless this is the end. */
    boolean goesOn() {
      int sign = hereBehindBlanks();
      if (fault != 0 || at >= length) {
        return false;
      }
      if (sign != ';') {
        fail(at, WRONG);
        return false;
      }
      at++;
      return true;
    }
  }

  /** Reads a COUNCIL into a draft. */
  private static final class CouncilText extends Text {
    private static final int MOST_CLAUSES = 16;
    private static final String WORDS = "members point voices bent ";
    private static final int MEMBERS = 0;
    private static final int POINT = 1;
    private static final int VOICES = 2;

    final State draft = new State();
    private boolean hasVoices;

    /** The FAULT, 0 without one. */
    int read(byte[] given, int size) {
      begin(given, size);
      draft.makeFresh();
      hasVoices = false;
      boolean isMore = true;
      for (int clause = 0; isMore && clause <= MOST_CLAUSES; clause++) {
        readClause(clause);
        isMore = goesOn();
      }
      draft.present = (1 << draft.members) - 1;
      return fault;
    }

    private void readClause(int clause) {
      hereBehindBlanks();
      int which = whichWord(WORDS);
      if (which == NONE) {
        fail(at, WRONG);
      } else if (clause >= MOST_CLAUSES || !mayStand(which, clause == 0)) {
        fail(at, BAD_CLAUSE);
      } else {
        passWord();
        readRest(which);
      }
    }

    private boolean mayStand(int which, boolean isFirst) {
      if (isFirst || which == MEMBERS) {
        return isFirst && which == MEMBERS;
      }
      return which == POINT ? draft.points < MOST_POINTS : which != VOICES || !hasVoices;
    }

    private void readRest(int which) {
      switch (which) {
        case MEMBERS:
          draft.members = Math.min(numberBehindBlanks(1, MOST_MEMBERS), MOST_MEMBERS);
          break;
        case POINT:
          readPoint();
          break;
        case VOICES:
          for (int member = 0; member < draft.members && fault == 0; member++) {
            draft.voices[member] = numberBehindBlanks(1, 999);
          }
          hasVoices = true;
          break;
        default:
          readBent();
          break;
      }
    }

    private void readPoint() {
      int first = draft.points * MOST_MEMBERS;
      for (int member = 0; member < draft.members && fault == 0; member++) {
        int sign = hereBehindBlanks();
        if (sign == '+' || sign == '-') {
          at++;
        }
        int worth = number(0, 99);
        draft.worths[first + member] = sign == '-' ? -worth : worth;
      }
      draft.points++;
    }

    private void readBent() {
      int member = numberBehindBlanks(0, draft.members - 1);
      if (fault == 0) {
        int rule = numberBehindBlanks(0, MOST_RULES - 1);
        if (draft.hasMember(member)) {
          draft.bents[member] = rule;
        }
      }
    }

    private int numberBehindBlanks(int least, int most) {
      hereBehindBlanks();
      return number(least, most);
    }
  }

  /** Reads a RULE into code for Rule. */
  private static final class RuleText extends Text {
    private static final int MOST_CLAUSES = 12;
    private static final int MOST_DEEP = 10;
    private static final int MOST_ITEMS = 60;
    /** The place of each word is the number of what is said: NO, YES, STILL. */
    private static final String SAYING_WORDS = "no yes keep ";
    private static final String VALUE_WORDS =
        "member point worth voices sum for against most left turn ";

    /** Each step has a byte of the text at least, so that these are enough. */
    final int[] code = new int[MOST_BYTES];
    int size;
    private int items;

    /** The FAULT, 0 without one. */
    int read(byte[] given, int count) {
      begin(given, count);
      size = 0;
      items = 0;
      boolean isMore = true;
      for (int clause = 0; isMore && clause <= MOST_CLAUSES; clause++) {
        hereBehindBlanks();
        int saying = whichWord(SAYING_WORDS);
        if (saying == NONE) {
          fail(at, WRONG);
        } else if (clause >= MOST_CLAUSES) {
          fail(at, BAD_CLAUSE);
        } else {
          passWord();
          int skip = NONE;
          if (hereBehindBlanks() == 'i' && whichWord("if ") == 0) {
            passWord();
            test(0);
            skip = put(Rule.UNLESS, 0);
          }
          put(Rule.SAY, saying);
          aim(skip);
        }
        isMore = goesOn();
      }
      return fault;
    }

    private int put(int step, int argument) {
      if (size >= code.length) {
        return NONE;
      }
      code[size] = Rule.stepOf(step, argument);
      size++;
      return size - 1;
    }

    /** The jump at a place leads to what comes next. */
    private void aim(int jump) {
      if (jump >= 0 && jump < size) {
        code[jump] = Rule.stepOf(Rule.kindOf(code[jump]), size);
      }
    }

    private void test(int depth) {
      int orJump = NONE;
      boolean isMore = true;
      fact(depth);
      for (int i = 0; isMore && fault == 0 && i < MOST_BYTES; i++) {
        hereBehindBlanks();
        int joint = whichWord("and or ");
        if (joint == 0) {
          passWord();
          int andJump = put(Rule.IF_AND, 0);
          fact(depth);
          aim(andJump);
        } else {
          aim(orJump);
          orJump = NONE;
          isMore = joint == 1;
          if (isMore) {
            passWord();
            orJump = put(Rule.IF_OR, 0);
            fact(depth);
          }
        }
      }
    }

    private void fact(int depth) {
      boolean isOpening = hereBehindBlanks() == '[';
      boolean isNot = !isOpening && whichWord("not ") == 0;
      if (!isOpening && !isNot) {
        sum();
        int step = sign();
        sum();
        put(step, 0);
      } else if (depth >= MOST_DEEP) {
        fail(at, TOO_DEEP);
      } else if (isNot) {
        passWord();
        fact(depth + 1);
        put(Rule.NOT, 0);
      } else {
        at++;
        test(depth + 1);
        if (hereBehindBlanks() != ']') {
          fail(at, WRONG);
        }
        at++;
      }
    }

    /** The step of the SIGN here, which stands for the whole FACT where these are counted. */
    private int sign() {
      int sign = hereBehindBlanks();
      int place = at;
      boolean isLess = sign == '<';
      boolean isMore = sign == '>';
      if (!isLess && !isMore && sign != '=') {
        fail(at, WRONG);
      }
      weigh(place);
      at++;
      boolean isOrSame = (isLess || isMore) && here() == '=';
      if (isOrSame) {
        at++;
        return isLess ? Rule.LESS_OR_SAME : Rule.MORE_OR_SAME;
      }
      return isLess ? Rule.LESS : isMore ? Rule.MORE : Rule.SAME;
    }

    private void sum() {
      int waiting = NONE;
      boolean isMore = true;
      value();
      for (int i = 0; isMore && fault == 0 && i < MOST_BYTES; i++) {
        int sign = hereBehindBlanks();
        if (sign == '*' || sign == '/') {
          at++;
          value();
          put(sign == '*' ? Rule.TIMES : Rule.BY, 0);
        } else {
          if (waiting != NONE) {
            put(waiting, 0);
          }
          isMore = sign == '+' || sign == '-';
          if (isMore) {
            at++;
            waiting = sign == '+' ? Rule.PLUS : Rule.MINUS;
            value();
          }
        }
      }
    }

    private void value() {
      hereBehindBlanks();
      int place = at;
      if (isDigitHere()) {
        put(Rule.NUMBER, number(0, MOST_SUM));
      } else {
        int word = whichWord(VALUE_WORDS);
        if (word == NONE) {
          fail(at, WRONG);
        }
        passWord();
        put(Rule.WORD, word);
      }
      weigh(place);
    }

    private void weigh(int place) {
      items++;
      if (items > MOST_ITEMS) {
        fail(place, TOO_MANY);
      }
    }
  }

  /** What a RULE says, as steps over a small stack. */
  private static final class Rule {
    static final int NUMBER = 0;
    static final int WORD = 1;
    static final int PLUS = 2;
    static final int MINUS = 3;
    static final int TIMES = 4;
    static final int BY = 5;
    static final int LESS = 6;
    static final int LESS_OR_SAME = 7;
    static final int SAME = 8;
    static final int MORE_OR_SAME = 9;
    static final int MORE = 10;
    static final int NOT = 11;
    static final int IF_AND = 12;
    static final int IF_OR = 13;
    static final int UNLESS = 14;
    static final int SAY = 15;

    /** Four at most lie there at once: of a FACT the left SUM, a SUM, a TERM, a VALUE. */
    private static final int STACK_MASK = 7;

    private final int[] code;
    private final long[] stack = new long[STACK_MASK + 1];

    Rule(int[] steps, int size) {
      int[] kept = new int[Math.max(0, Math.min(size, steps.length))];
      System.arraycopy(steps, 0, kept, 0, kept.length);
      code = kept;
    }

    static int stepOf(int kind, int argument) {
      return argument << 4 | kind;
    }

    static int kindOf(int step) {
      return step & 15;
    }

    /** What a MEMBER says by this RULE; NONE if no CLAUSE holds. */
    int sayingOf(int member, Hall hall) {
      int top = -1;
      for (int i = 0; i < code.length; i++) {
        int kind = code[i] & 15;
        int argument = code[i] >> 4;
        if (kind == SAY) {
          return argument;
        }
        if (kind <= WORD) {
          top++;
          stack[top & STACK_MASK] = kind == WORD ? hall.wordOf(argument, member) : argument;
        } else if (kind <= MORE) {
          top--;
          long left = stack[top & STACK_MASK];
          stack[top & STACK_MASK] = joined(kind, left, stack[top + 1 & STACK_MASK]);
        } else if (kind == NOT) {
          stack[top & STACK_MASK] = 1 - stack[top & STACK_MASK];
        } else {
          boolean isTrue = stack[top & STACK_MASK] != 0;
          boolean isJump = isTrue == (kind == IF_OR);
          if (isJump) {
            // Jumps lead forward only, so that the walk has an end.
            i = Math.max(i, argument - 1);
          }
          if (!isJump || kind == UNLESS) {
            top--;
          }
        }
      }
      return NONE;
    }

    private static long joined(int kind, long left, long right) {
      switch (kind) {
        case PLUS: return left + right;
        case MINUS: return left - right;
        case TIMES: return left * right;
        case BY: return right == 0 ? 0 : left / right;
        case LESS: return left < right ? 1 : 0;
        case LESS_OR_SAME: return left <= right ? 1 : 0;
        case SAME: return left == right ? 1 : 0;
        case MORE_OR_SAME: return left >= right ? 1 : 0;
        default: return left > right ? 1 : 0;
      }
    }
  }

  /** Where VOTES are held, on any voices: those that there are, or those of a thought. */
  private static final class Hall {
    private final State state;
    private final Rule[] rules;
    private int point;
    private int turn;
    private int[] voices;
    private int[] row;
    private int behind;
    private int rowEnd;
    private boolean isCounted;
    private int sum;
    private int sumFor;
    private int sumAgainst;
    /** Who said yes and no when they were asked last. */
    int yes;
    int no;
    /** Who won the VOTE that was held last. */
    int winners;

    Hall(State council, Rule[] told) {
      state = council;
      rules = told;
      voices = council.voices;
      row = council.row;
    }

    void bringAlone(int what, int[] held, int votes) {
      point = what;
      voices = held;
      turn = votes;
      behind = 0;
      rowEnd = 0;
      isCounted = false;
    }

    /** The POINT at a place of a row comes up, those further on are behind it. */
    void bring(int[] points, int place, int size, int[] held, int votes) {
      point = points[place];
      voices = held;
      turn = votes;
      row = points;
      behind = place + 1;
      rowEnd = size;
      isCounted = false;
    }

    /** Members of a set say what they would say by themselves: yes and no become sets. */
    void ask(int set) {
      yes = 0;
      no = 0;
      for (int member = 0; member < state.members; member++) {
        if ((set >> member & 1) == 1) {
          int bent = state.bents[member];
          boolean isTold = bent >= 0 && bent < rules.length && rules[bent] != null;
          int saying = isTold ? rules[bent].sayingOf(member, this) : NONE;
          if (saying == NONE) {
            saying = trueSaying(state.worthOf(member, point));
          }
          if (saying == YES) {
            yes |= 1 << member;
          } else if (saying == NO) {
            no |= 1 << member;
          }
        }
      }
    }

    static int trueSaying(int worth) {
      return worth > 0 ? YES : worth < 0 ? NO : STILL;
    }

    /** What a WORD of a RULE is worth for a MEMBER; the numbers are as in RuleText. */
    long wordOf(int word, int member) {
      switch (word) {
        case 0: return member;
        case 1: return point;
        case 2: return state.worthOf(member, point);
        case 3: return voices[member];
        case 4:
        case 5:
        case 6: return countedVoices(word);
        case 7: return mostBehind(member);
        case 8: return rowEnd > behind ? rowEnd - behind : 0;
        default: return turn;
      }
    }

    /** The sums are made once for a VOTE, and only if a RULE asks for them. */
    private int countedVoices(int word) {
      if (!isCounted) {
        isCounted = true;
        sum = 0;
        sumFor = 0;
        sumAgainst = 0;
        for (int member = 0; member < state.members; member++) {
          if ((state.present >> member & 1) == 1) {
            int worth = state.worths[point * MOST_MEMBERS + member];
            sum += voices[member];
            sumFor += worth > 0 ? voices[member] : 0;
            sumAgainst += worth < 0 ? voices[member] : 0;
          }
        }
      }
      return word == 4 ? sum : word == 5 ? sumFor : sumAgainst;
    }

    private int mostBehind(int member) {
      int most = 0;
      for (int place = behind; place < rowEnd; place++) {
        int worth = state.worths[row[place] * MOST_MEMBERS + member];
        int size = worth < 0 ? -worth : worth;
        most = size > most ? size : most;
      }
      return most;
    }

    /** By how many voices yes is ahead. */
    int lead(int[] held, int yesSet, int noSet) {
      int lead = 0;
      for (int member = 0; member < state.members; member++) {
        if ((yesSet >> member & 1) == 1) {
          lead += held[member];
        } else if ((noSet >> member & 1) == 1) {
          lead -= held[member];
        }
      }
      return lead;
    }

    /** A VOTE: the voices grow, and it is told how it went. */
    int hold(int[] held, int yesSet, int noSet) {
      int lead = lead(held, yesSet, noSet);
      winners = lead > 0 ? yesSet : lead < 0 ? noSet : 0;
      grow(held, winners, (yesSet | noSet) & ~winners);
      return lead > 0 ? THROUGH : lead < 0 ? 0 : EQUAL;
    }

    void grow(int[] held, int winning, int losing) {
      for (int member = 0; member < state.members; member++) {
        if ((winning >> member & 1) == 1) {
          held[member] = state.law == HALF ? Math.max(1, held[member] / 2) : 1;
        } else if ((losing >> member & 1) == 1) {
          int grown = state.law == DOUBLE ? 2 * held[member] : held[member] + 1;
          held[member] = Math.min(state.cap, grown);
        }
      }
    }

    int holdForGood(int yesSet, int noSet) {
      int outcome = hold(state.voices, yesSet, noSet);
      for (int member = 0; member < state.members; member++) {
        if ((winners >> member & 1) == 1) {
          state.won[member]++;
        } else if (((yesSet | noSet) >> member & 1) == 1) {
          state.lost[member]++;
        }
      }
      state.turn++;
      return outcome;
    }
  }

  /** Long courses in thought: OPEN, ROUNDS, YEAR. */
  private static final class Course {
    private static final int MOST_DAYS = 300;

    private final State state;
    private final Hall hall;
    private final int[] voices = new int[MOST_MEMBERS];
    /** The voices behind each day of ROUNDS, a row of all MEMBERS for each. */
    private final int[] seen = new int[(MOST_DAYS + 1) * MOST_MEMBERS];
    final int[] wins = new int[MOST_MEMBERS];
    int gain;
    int through;
    int loudest;
    int leadIn;
    int length;

    Course(State council, Hall place) {
      state = council;
      hall = place;
    }

    private void start() {
      System.arraycopy(state.voices, 0, voices, 0, MOST_MEMBERS);
      gain = 0;
      through = 0;
      loudest = 0;
    }

    void runDays(int days, int member, boolean isOneVoice) {
      start();
      int votes = days * state.ordered;
      for (int vote = 0; vote < votes && state.ordered > 0; vote++) {
        if (isOneVoice) {
          evenOut();
        }
        int place = vote % state.ordered;
        hall.bring(state.row, place, state.ordered, voices, state.turn + vote);
        hall.ask(state.present);
        mark(hall.hold(voices, hall.yes, hall.no), member, state.row[place]);
      }
    }

    private void evenOut() {
      for (int member = 0; member < MOST_MEMBERS; member++) {
        voices[member] = 1;
      }
    }

    private void mark(int outcome, int member, int point) {
      if (outcome == THROUGH) {
        through++;
        gain += state.worthOf(member, point);
      }
    }

    void runYear(int votes, int member) {
      start();
      long x = state.x;
      for (int vote = 0; vote < votes && state.points > 0; vote++) {
        x = x * 1103515245L + 12345L & 2147483647L;
        int point = (int) (x / 65536 % state.points);
        hall.bringAlone(point, voices, state.turn + vote);
        hall.ask(state.present);
        mark(hall.hold(voices, hall.yes, hall.no), member, point);
        for (int other = 0; other < state.members; other++) {
          loudest = Math.max(loudest, voices[other]);
        }
      }
    }

    /** Whether voices come again within the DAYS; then the round is known. */
    boolean seekRound() {
      start();
      keep(0);
      for (int day = 1; day <= MOST_DAYS; day++) {
        runRoundDay();
        int earlier = seenBefore(day);
        if (earlier != NONE) {
          leadIn = earlier;
          length = day - earlier;
          runRoundAgain();
          return true;
        }
        keep(day);
      }
      return false;
    }

    private void keep(int day) {
      System.arraycopy(voices, 0, seen, day * MOST_MEMBERS, MOST_MEMBERS);
    }

    private int seenBefore(int days) {
      for (int day = 0; day < days; day++) {
        int first = day * MOST_MEMBERS;
        int member = 0;
        while (member < state.members && seen[first + member] == voices[member]) {
          member++;
        }
        if (member >= state.members) {
          return day;
        }
      }
      return NONE;
    }

    /** The voices are as at the round's begin now: its DAYS once more, and what they bring. */
    private void runRoundAgain() {
      through = 0;
      for (int member = 0; member < MOST_MEMBERS; member++) {
        wins[member] = 0;
      }
      for (int day = 0; day < length; day++) {
        runRoundDay();
      }
    }

    private void runRoundDay() {
      for (int place = 0; place < state.ordered; place++) {
        hall.bring(state.row, place, state.ordered, voices, state.turn);
        hall.ask(state.present);
        if (hall.hold(voices, hall.yes, hall.no) == THROUGH) {
          through++;
        }
        for (int member = 0; member < state.members; member++) {
          wins[member] += hall.winners >> member & 1;
        }
      }
    }
  }

  /** THROWN: the PLAN of a FACTION, and who can spoil it. */
  private static final class Planner {
    private static final int MOST_PLACES = 4;
    private static final int MOST_CHOICES = 27;
    private static final int TOO_DEAR = 100;
    private static final int CELLS = 2048;
    private static final int CELL_SIZE = 3;

    private final State state;
    private final Hall hall;
    private final int[][] voices = new int[MOST_PLACES][MOST_MEMBERS];
    /** What a FACTION can say together, by choice: who says yes, who no; the first ahead. */
    private final int[] yesSets = new int[MOST_CHOICES];
    private final int[] noSets = new int[MOST_CHOICES];
    private final int[] prices = new int[MOST_PLACES * MOST_CHOICES];
    private final int[] tried = new int[MOST_PLACES];
    private final int[] kept = new int[MOST_PLACES];
    /** Voices met at a place, each with what it had cost; a new one takes an old one's cell. */
    private final long[] met = new long[CELLS * CELL_SIZE];
    private final int[] costs = new int[CELLS];
    private int searches;
    private int faction;
    private int choices;
    private int last;
    int fewest;

    Planner(State council, Hall place) {
      state = council;
      hall = place;
    }

    /** Whether there is a PLAN; it is known then. */
    boolean search(int set) {
      faction = set;
      last = Math.min(state.ordered, MOST_PLACES) - 1;
      fewest = TOO_DEAR;
      searches++;
      layOutChoices();
      for (int place = 0; place <= last; place++) {
        priceChoices(place);
      }
      System.arraycopy(state.voices, 0, voices[0], 0, MOST_MEMBERS);
      descend(0, 0);
      return fewest < TOO_DEAR;
    }

    private void layOutChoices() {
      choices = 1;
      yesSets[0] = 0;
      noSets[0] = 0;
      for (int member = state.members - 1; member >= 0; member--) {
        if ((faction >> member & 1) == 1 && choices * 3 <= MOST_CHOICES) {
          addToChoices(1 << member);
        }
      }
    }

    /** One more MEMBER, of a lesser number than those before: he parts the choices first. */
    private void addToChoices(int bit) {
      for (int choice = 0; choice < choices; choice++) {
        yesSets[choices + choice] = yesSets[choice];
        noSets[choices + choice] = noSets[choice] | bit;
        yesSets[2 * choices + choice] = yesSets[choice];
        noSets[2 * choices + choice] = noSets[choice];
        yesSets[choice] |= bit;
      }
      choices *= 3;
    }

    /** How many of a choice's sayings are not true at a place. */
    private void priceChoices(int place) {
      int trueYes = 0;
      int trueNo = 0;
      for (int member = 0; member < state.members; member++) {
        int saying = Hall.trueSaying(state.worthOf(member, state.row[place]));
        trueYes |= saying == YES ? 1 << member : 0;
        trueNo |= saying == NO ? 1 << member : 0;
      }
      for (int choice = 0; choice < choices; choice++) {
        int untrue = (yesSets[choice] ^ trueYes) | (noSets[choice] ^ trueNo);
        prices[place * MOST_CHOICES + choice] = Integer.bitCount(untrue & faction);
      }
    }

    private void descend(int place, int spent) {
      int[] held = voices[place];
      hall.bring(state.row, place, state.ordered, held, state.turn + place);
      hall.ask(state.present & ~faction);
      int yes = hall.yes;
      int no = hall.no;
      if (place >= last) {
        closeWith(hall.lead(held, yes, no), spent);
        return;
      }
      for (int choice = 0; choice < choices; choice++) {
        int price = spent + prices[place * MOST_CHOICES + choice];
        if (price < fewest) {
          System.arraycopy(held, 0, voices[place + 1], 0, MOST_MEMBERS);
          hall.hold(voices[place + 1], yes | yesSets[choice], no | noSets[choice]);
          tried[place] = choice;
          if (!isMet(place + 1, price)) {
            descend(place + 1, price);
          }
        }
      }
    }

    /**
     * Whether the same voices were met at this place before, for no more: what comes from here
     * is no better then, and no earlier. If not, they are kept as met.
     */
    private boolean isMet(int place, int spent) {
      int[] held = voices[place];
      long low = place;
      long middle = 0;
      for (int member = 0; member < 4; member++) {
        low = low << 14 | held[member];
        middle = middle << 14 | held[4 + member];
      }
      long high = (long) held[8] << 14 | held[9];
      long mixed = (low * 31 + middle) * 31 + high;
      int cell = (int) ((mixed * 0x9E3779B97F4A7C15L) >>> 53);
      int first = cell * CELL_SIZE;
      int stamp = searches * 2 * TOO_DEAR;
      boolean isSame = met[first] == low && met[first + 1] == middle && met[first + 2] == high;
      if (isSame && costs[cell] >= stamp && costs[cell] <= stamp + spent) {
        return true;
      }
      met[first] = low;
      met[first + 1] = middle;
      met[first + 2] = high;
      costs[cell] = stamp + spent;
      return false;
    }

    /** The last POINT, the others being so far ahead for it. */
    private void closeWith(int lead, int spent) {
      int[] held = voices[last];
      if (lead + state.sumOf(held, faction) <= 0) {
        return;
      }
      for (int choice = 0; choice < choices; choice++) {
        int price = spent + prices[last * MOST_CHOICES + choice];
        if (price < fewest && lead + hall.lead(held, yesSets[choice], noSets[choice]) > 0) {
          fewest = price;
          tried[last] = choice;
          System.arraycopy(tried, 0, kept, 0, MOST_PLACES);
        }
      }
    }

    int sayingAt(int place, int member) {
      int choice = kept[place];
      if ((yesSets[choice] >> member & 1) == 1) {
        return YES;
      }
      return (noSets[choice] >> member & 1) == 1 ? NO : STILL;
    }

    int spoilingSet() {
      int set = 0;
      for (int member = 0; member < state.members; member++) {
        int bit = 1 << member;
        if ((state.present & ~faction & bit) != 0 && canSpoil(0, bit)) {
          set |= bit;
        }
      }
      return set;
    }

    private boolean canSpoil(int place, int spoiler) {
      int[] held = voices[place];
      hall.bring(state.row, place, state.ordered, held, state.turn + place);
      hall.ask(state.present & ~faction & ~spoiler);
      int yes = hall.yes | yesSets[kept[place]];
      int no = hall.no | noSets[kept[place]];
      if (place >= last) {
        // Nothing hurts a POINT more than a no.
        return hall.lead(held, yes, no | spoiler) <= 0;
      }
      boolean isSpoilt = false;
      for (int i = 0; i < SAYINGS.length && !isSpoilt; i++) {
        int yesToo = SAYINGS[i] == YES ? spoiler : 0;
        int noToo = SAYINGS[i] == NO ? spoiler : 0;
        System.arraycopy(held, 0, voices[place + 1], 0, MOST_MEMBERS);
        hall.hold(voices[place + 1], yes | yesToo, no | noToo);
        isSpoilt = canSpoil(place + 1, spoiler);
      }
      return isSpoilt;
    }
  }

  /** SIDES: two sides who plan against each other. */
  private static final class Duel {
    private static final int MOST_PLACES = 4;

    private final State state;
    private final Hall hall;
    private final int[][] voices = new int[MOST_PLACES + 1][MOST_MEMBERS];
    private final int[] stakes = new int[MOST_PLACES];
    private int first;
    private int second;
    private int places;
    int opening;

    Duel(State council, Hall place) {
      state = council;
      hall = place;
    }

    /** The GAIN of the one side less that of the other, by best play. */
    int fight(int one, int other) {
      first = one;
      second = other;
      places = Math.min(state.ordered, MOST_PLACES);
      for (int place = 0; place < places; place++) {
        int point = state.row[place];
        stakes[place] = state.worthOfSet(one, point) - state.worthOfSet(other, point);
      }
      System.arraycopy(state.voices, 0, voices[0], 0, MOST_MEMBERS);
      return play(0);
    }

    private int play(int place) {
      if (place >= places) {
        return 0;
      }
      hall.bring(state.row, place, state.ordered, voices[place], state.turn + place);
      hall.ask(state.present & ~first & ~second);
      int yes = hall.yes;
      int no = hall.no;
      int best = -FAR;
      for (int i = 0; i < SAYINGS.length; i++) {
        int firstYes = SAYINGS[i] == YES ? first : 0;
        int firstNo = SAYINGS[i] == NO ? first : 0;
        int gain = answered(place, yes | firstYes, no | firstNo);
        if (gain > best) {
          best = gain;
          if (place == 0) {
            opening = SAYINGS[i];
          }
        }
      }
      return best;
    }

    /** What is left to the first side when the other one answers as is best for that. */
    private int answered(int place, int yes, int no) {
      int least = FAR;
      int[] next = voices[place + 1];
      for (int i = 0; i < SAYINGS.length; i++) {
        int secondYes = SAYINGS[i] == YES ? second : 0;
        int secondNo = SAYINGS[i] == NO ? second : 0;
        System.arraycopy(voices[place], 0, next, 0, MOST_MEMBERS);
        int outcome = hall.hold(next, yes | secondYes, no | secondNo);
        int gain = outcome == THROUGH ? stakes[place] : 0;
        least = Math.min(least, gain + play(place + 1));
      }
      return least;
    }
  }

  /** CHAIR: the order of the ORDER's POINTS that gives a MEMBER most, or least. */
  private static final class Chairman {
    static final int MOST = 6;

    private final State state;
    private final Hall hall;
    private final int[][] voices = new int[MOST + 1][MOST_MEMBERS];
    /** What is laid so far, and behind it what is left, the lesser ahead. */
    private final int[] row = new int[MOST];
    private final int[] bestRow = new int[MOST];
    private int places;
    private int member;
    private int factor;
    private int best;

    Chairman(State council, Hall place) {
      state = council;
      hall = place;
    }

    void seek(int who, boolean isMost) {
      member = who;
      factor = isMost ? 1 : -1;
      places = Math.min(state.ordered, MOST);
      best = -FAR;
      for (int i = 0; i < places; i++) {
        insert(state.row[i], i);
      }
      System.arraycopy(state.voices, 0, voices[0], 0, MOST_MEMBERS);
      arrange(0, 0);
    }

    private void insert(int point, int size) {
      int place = size;
      while (place > 0 && row[place - 1] > point) {
        row[place] = row[place - 1];
        place--;
      }
      row[place] = point;
    }

    private void arrange(int place, int gain) {
      if (place >= places) {
        if (gain > best) {
          best = gain;
          System.arraycopy(row, 0, bestRow, 0, MOST);
        }
        return;
      }
      for (int taken = place; taken < places; taken++) {
        int point = row[taken];
        if (taken == place || point != row[taken - 1]) {
          System.arraycopy(row, place, row, place + 1, taken - place);
          row[place] = point;
          arrange(place + 1, gain + gainAt(place));
          System.arraycopy(row, place + 1, row, place, taken - place);
          row[taken] = point;
        }
      }
    }

    private int gainAt(int place) {
      hall.bring(row, place, places, voices[place], state.turn + place);
      hall.ask(state.present);
      System.arraycopy(voices[place], 0, voices[place + 1], 0, MOST_MEMBERS);
      int outcome = hall.hold(voices[place + 1], hall.yes, hall.no);
      return outcome == THROUGH ? factor * state.worthOf(member, row[place]) : 0;
    }

    int gainFound() {
      return factor * best;
    }

    int pointAt(int place) {
      return place >= 0 && place < places ? bestRow[place] : NO_GAIN;
    }
  }

  /** BOOKS: which voices at the begin FIT all ENTRIES, and which set TELLS most of them. */
  private static final class Books {
    static final int MOST = 5;

    private final State state;
    private final Hall hall;
    private final int[] begin = new int[MOST_MEMBERS];
    private final int[] held = new int[MOST_MEMBERS];
    final int[] least = new int[MOST_MEMBERS];
    final int[] greatest = new int[MOST_MEMBERS];
    /** The voices behind all ENTRIES, a row of MEMBERS for each that fits. */
    private int[] ends = new int[64];
    private int[] tally = new int[128];
    private int[] sums = new int[64];
    private int highest;
    int found;
    int bestSet;
    int bestMost;

    Books(State council, Hall place) {
      state = council;
      hall = place;
    }

    void search(int most, boolean isKept) {
      found = 0;
      highest = 0;
      for (int member = 0; member < MOST_MEMBERS; member++) {
        begin[member] = 1;
        least[member] = most;
        greatest[member] = 1;
      }
      int all = 1;
      for (int member = 0; member < state.members && member < MOST; member++) {
        all *= most;
      }
      for (int i = 0; i < all; i++) {
        if (holdAll()) {
          mark();
          if (isKept) {
            keep();
          }
          found++;
        }
        stepOn(most);
      }
    }

    private void stepOn(int most) {
      int member = 0;
      while (member < MOST && begin[member] >= most) {
        begin[member] = 1;
        member++;
      }
      begin[member]++;
    }

    private boolean holdAll() {
      System.arraycopy(begin, 0, held, 0, MOST_MEMBERS);
      boolean isHeld = true;
      for (int entry = 0; entry < state.entries && isHeld; entry++) {
        int at = entry * State.ENTRY_SIZE;
        int yes = state.written[at];
        int no = state.written[at + 1];
        int yesSum = state.written[at + 2];
        int noSum = state.written[at + 3];
        isHeld = state.sumOf(held, yes) == yesSum && state.sumOf(held, no) == noSum;
        if (isHeld) {
          hall.hold(held, yes, no);
        }
      }
      return isHeld;
    }

    private void mark() {
      for (int member = 0; member < state.members; member++) {
        least[member] = Math.min(least[member], begin[member]);
        greatest[member] = Math.max(greatest[member], begin[member]);
      }
    }

    private void keep() {
      int at = found * MOST;
      ends = roomFor(ends, at + MOST);
      System.arraycopy(held, 0, ends, at, MOST);
      highest = Math.max(highest, state.sumOf(held, (1 << state.members) - 1));
    }

    /** Twice as large each time, so that all that is ever made stays small. */
    private static int[] roomFor(int[] row, int size) {
      int length = row.length;
      for (int i = 0; i < 30 && length < size; i++) {
        length *= 2;
      }
      if (length == row.length) {
        return row;
      }
      int[] larger = new int[length];
      System.arraycopy(row, 0, larger, 0, row.length);
      return larger;
    }

    void seekTelling() {
      bestSet = 1;
      bestMost = found;
      sums = roomFor(sums, found);
      tally = roomFor(tally, highest + 1);
      for (int set = 1; set < 1 << state.members; set++) {
        int most = mostWithOneSum(set);
        if (set == 1 || most < bestMost) {
          bestSet = set;
          bestMost = most;
        }
      }
    }

    private int mostWithOneSum(int set) {
      int most = 0;
      for (int i = 0; i < found; i++) {
        int sum = sumOfEnds(i, set);
        sums[i] = sum;
        tally[sum]++;
        most = tally[sum] > most ? tally[sum] : most;
      }
      for (int i = 0; i < found; i++) {
        tally[sums[i]] = 0;
      }
      return most;
    }

    private int sumOfEnds(int which, int set) {
      int sum = 0;
      int first = which * MOST;
      for (int member = 0; member < MOST; member++) {
        if ((set >> member & 1) == 1) {
          sum += ends[first + member];
        }
      }
      return sum;
    }
  }
}
