/** Promises 43 to 49: each bound that the document names for facts and their reviews, on both sides. */
public final class FactEdgesTest {
  public static void main(String[] args) {
    eases();
    twelveFacts();
    factNumbers();
    rightInTime();
    sinceTheLastOne();
    atMost64();
    halfCut();
    threeLapses();
    leechesOfAll();
    due();
    bestNumbers();
    bestOfHowMany();
    bestOfOne();
    bestOfOverdue();
    bestUpTo64();
    bestInTime();
    fewestReviews();
    firstByItsFacts();
    bestChangesNothing();
    Due.end();
  }

  private static void eases() {
    Due.range("43: ease", 1, 5, ease -> new Locihall().fact(ease), Due.ARGUMENT);
  }

  private static void twelveFacts() {
    Locihall x = new Locihall();
    for (int fact = 0; fact < 12; fact++) {
      int number = fact;
      Due.thrown("45: fact " + number + " is still to come", () -> x.strength(number), Due.BOUNDS);
      Due.due("43: fact " + number, () -> x.fact(5), number);
      Due.due("45: strength of fact " + number, () -> x.strength(number), 1);
    }
    Due.thrown("43: a thirteenth fact", () -> x.fact(5), Due.STATE);
    Due.thrown("45: no fact 12", () -> x.strength(12), Due.BOUNDS);
  }

  private static void factNumbers() {
    for (int facts : new int[] {0, 1, 2, 12}) {
      Due.range("44: fact of " + facts, 0, facts - 1, fact -> withFacts(facts, 1).review(fact), Due.BOUNDS);
      Due.range("45: fact of " + facts, 0, facts - 1, fact -> withFacts(facts, 1).strength(fact), Due.BOUNDS);
      Due.range("46: fact of " + facts, 0, facts - 1, fact -> withFacts(facts, 1).isDue(fact), Due.BOUNDS);
    }
  }

  private static Locihall withFacts(int facts, int ease) {
    Locihall x = new Locihall();
    for (int fact = 0; fact < facts; fact++) {
      x.fact(ease);
    }
    return x;
  }

  /** The fact has this strength now, a power of 2. */
  private static void strengthen(Locihall x, int fact, int strength) {
    while (x.strength(fact) < strength) {
      x.review(fact);
    }
  }

  private static void pass(Locihall x, int hours) {
    for (int left = hours; left > 0; left -= 999) {
      x.pass(Math.min(999, left));
    }
  }

  private static void rightInTime() {
    for (int ease = 1; ease <= 5; ease++) {
      for (int strength = 1; strength <= 64; strength *= 2) {
        int most = 4 * strength * ease;
        for (int hours : new int[] {0, 1, most - 1, most, most + 1, most + 2}) {
          Locihall x = withFacts(1, ease);
          strengthen(x, 0, strength);
          pass(x, hours);
          boolean isRight = hours <= most;
          int then = isRight ? Math.min(64, 2 * strength) : Math.max(1, strength / 2);
          Due.due("44: ease " + ease + ", strength " + strength + ", hours " + hours, () -> x.review(0), isRight);
          Due.due("45: ease " + ease + ", strength " + strength + ", hours " + hours, () -> x.strength(0), then);
        }
      }
    }
  }

  private static void sinceTheLastOne() {
    Locihall x = new Locihall();
    x.pass(100);
    x.fact(1);
    x.pass(4);
    Due.due("44: since it came", () -> x.review(0), true);
    x.pass(9);
    Due.due("44: since the last one, that was right", () -> x.review(0), false);
    x.pass(4);
    Due.due("44: since the last one, that was not", () -> x.review(0), true);
    Due.due("45: 1, 2, 1, 2", () -> x.strength(0), 2);
    x.fact(1);
    x.pass(5);
    Due.due("44: the other one by itself", () -> x.review(1), false);
    Due.due("44: this one by itself", () -> x.review(0), true);
  }

  private static void atMost64() {
    Locihall x = withFacts(1, 1);
    for (int strength : new int[] {2, 4, 8, 16, 32, 64, 64, 64}) {
      Due.due("44: at once", () -> x.review(0), true);
      Due.due("45: at most 64", () -> x.strength(0), strength);
    }
  }

  private static void halfCut() {
    Locihall x = withFacts(1, 1);
    strengthen(x, 0, 64);
    for (int strength : new int[] {32, 16, 8, 4, 2, 1, 1, 1}) {
      pass(x, 257);
      Due.due("44: too late", () -> x.review(0), false);
      Due.due("45: half of it, at least 1", () -> x.strength(0), strength);
    }
  }

  private static void threeLapses() {
    Locihall x = withFacts(2, 1);
    Due.due("47: none", () -> x.leeches(), 0);
    for (int lapses = 1; lapses <= 6; lapses += 2) {
      x.pass(5);
      checkLapse(x, lapses);
      // What is right takes no lapse back, and is none.
      x.review(0);
      x.pass(9);
      checkLapse(x, lapses + 1);
    }
    Due.due("47: it stays one", () -> x.leeches(), 1);
  }

  private static void checkLapse(Locihall x, int lapses) {
    Due.due("44: too late", () -> x.review(0), false);
    Due.due("47: with lapses " + lapses, () -> x.leeches(), lapses >= 3 ? 1 : 0);
  }

  private static void leechesOfAll() {
    Locihall x = withFacts(12, 1);
    for (int lapse = 1; lapse <= 3; lapse++) {
      x.pass(5);
      for (int fact = 0; fact < 12; fact++) {
        x.review(fact);
        Due.due("47: lapse " + lapse + " of fact " + fact, () -> x.leeches(), lapse == 3 ? (2 << fact) - 1 : 0);
      }
    }
    Locihall y = withFacts(12, 1);
    for (int lapse = 1; lapse <= 3; lapse++) {
      y.pass(5);
      y.review(11);
    }
    Due.due("47: the last one alone", () -> y.leeches(), 2048);
    Due.due("47: without facts", () -> new Locihall().leeches(), 0);
  }

  private static void due() {
    for (int ease = 1; ease <= 5; ease++) {
      for (int strength = 1; strength <= 64; strength *= 2) {
        int most = 4 * strength * ease;
        for (int hours : new int[] {0, most - 2, most - 1, most, most + 1}) {
          Locihall x = withFacts(1, ease);
          strengthen(x, 0, strength);
          pass(x, hours);
          Due.due("46: ease " + ease + ", strength " + strength + ", hours " + hours, () -> x.isDue(0), hours == most);
        }
      }
    }
  }

  private static void bestNumbers() {
    Due.range("48: hours", 1, 5, hours -> withFacts(1, 1).bestSum(hours), Due.ARGUMENT);
    Due.range("49: hours", 1, 5, hours -> withFacts(1, 1).bestAt(hours, 0), Due.ARGUMENT);
    for (int hours = 1; hours <= 5; hours++) {
      int told = hours;
      Due.range("49: hour of " + hours, 0, hours - 1, hour -> withFacts(1, 1).bestAt(told, hour), Due.ARGUMENT);
    }
  }

  private static void bestOfHowMany() {
    for (int facts = 0; facts <= 12; facts++) {
      int count = facts;
      Object refused = facts == 0 ? Due.NONE.getSimpleName() : Due.STATE.getSimpleName();
      boolean isTaken = facts >= 1 && facts <= 4;
      Due.due("48: of " + facts, () -> withFacts(count, 1).bestSum(5), isTaken ? 31 + facts : refused);
      Due.due("49: of " + facts, () -> withFacts(count, 1).bestAt(5, 4), isTaken ? 0 : refused);
    }
  }

  private static void bestOfOne() {
    Halls.checkPlan("49: an hour,", withFacts(1, 1), 2, 0);
    Halls.checkPlan("49: 2 hours,", withFacts(1, 1), 4, 0, 0);
    Halls.checkPlan("49: 3 hours,", withFacts(1, 1), 8, 0, 0, 0);
    Halls.checkPlan("49: 4 hours,", withFacts(1, 1), 16, 0, 0, 0, 0);
    Halls.checkPlan("49: 5 hours,", withFacts(1, 1), 32, 0, 0, 0, 0, 0);
  }

  private static Locihall withOne(int strength, int hours) {
    Locihall x = withFacts(1, 1);
    strengthen(x, 0, strength);
    pass(x, hours);
    return x;
  }

  private static void bestOfOverdue() {
    Halls.checkPlan("49: due,", withOne(1, 4), 2, 0);
    Halls.checkPlan("49: overdue,", withOne(1, 5), 1, -1);
    Halls.checkPlan("49: overdue, then right,", withOne(1, 5), 2, 0, 0);
    Halls.checkPlan("49: 2 overdue,", withOne(2, 9), 2, -1, -1);
    Halls.checkPlan("49: 2 overdue, and back at 4,", withOne(2, 9), 4, 0, 0, 0);
    Halls.checkPlan("49: 64 overdue,", withOne(64, 257), 64, -1, -1);
    Halls.checkPlan("49: 32 overdue, and back at 64,", withOne(32, 129), 64, 0, 0, 0);
  }

  private static void bestUpTo64() {
    Halls.checkPlan("49: 16,", withOne(16, 0), 64, 0, 0, -1);
    Halls.checkPlan("49: 32,", withOne(32, 0), 64, 0, -1, -1);
    Halls.checkPlan("49: 64,", withOne(64, 0), 64, -1, -1, -1);
    Halls.checkPlan("49: 64, due,", withOne(64, 256), 64, -1);
  }

  /** Fact 0 of the ease 5 and fact 1 of the ease 1, both of strength 32, behind some hours. */
  private static Locihall withTwo(int hours) {
    Locihall x = new Locihall();
    x.fact(5);
    x.fact(1);
    strengthen(x, 0, 32);
    strengthen(x, 1, 32);
    pass(x, hours);
    return x;
  }

  private static void bestInTime() {
    Halls.checkPlan("49: both in time,", withTwo(127), 128, 0, 1);
    Halls.checkPlan("49: the second one is due,", withTwo(128), 128, 1, 0);
    Halls.checkPlan("49: the second one is overdue,", withTwo(129), 96, 0, -1);
    Halls.checkPlan("49: in time, with an hour to spare,", withTwo(127), 128, 0, 1, -1);
    Halls.checkPlan("49: due, with an hour to spare,", withTwo(128), 128, 1, 0, -1);
  }

  private static void fewestReviews() {
    Locihall x = withFacts(2, 5);
    strengthen(x, 0, 64);
    strengthen(x, 1, 32);
    Halls.checkPlan("49: just the second one,", x, 128, 1, -1, -1, -1, -1);
    x.review(1);
    Halls.checkPlan("49: neither of both,", x, 128, -1, -1, -1, -1, -1);
  }

  private static void firstByItsFacts() {
    Locihall x = withFacts(4, 5);
    for (int fact = 0; fact < 4; fact++) {
      strengthen(x, fact, 32);
    }
    Halls.checkPlan("49: the first of four,", x, 160, 0);
    Halls.checkPlan("49: in their order,", x, 256, 0, 1, 2, 3);
    Halls.checkPlan("49: none last,", x, 256, 0, 1, 2, 3, -1);
    x.review(0);
    x.review(2);
    Halls.checkPlan("49: two of four,", x, 256, 1, 3, -1, -1);
    Halls.checkPlan("49: the second of four,", x, 224, 1);
  }

  private static void bestChangesNothing() {
    Locihall x = withTwo(128);
    for (int hours = 1; hours <= 5; hours++) {
      x.bestSum(hours);
      x.bestAt(hours, hours - 1);
    }
    Due.due("45: the first strength", () -> x.strength(0), 32);
    Due.due("45: the second strength", () -> x.strength(1), 32);
    Due.due("46: still due", () -> x.isDue(1), true);
    Due.due("47: no lapse", () -> x.leeches(), 0);
    Due.due("24: no hour", () -> x.pass(1), 129);
  }
}
