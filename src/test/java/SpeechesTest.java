/** Promises 38 to 49: speeches and facts. */
public final class SpeechesTest {
  public static void main(String[] args) {
    speech();
    speakAndPoint();
    interruptAndResume();
    digressions();
    fact();
    review();
    lapses();
    isDue();
    bestBounds();
    bestOfOne();
    bestOfSome();
    Due.end();
  }

  private static Locihall hall(int loci) {
    Locihall x = new Locihall();
    x.palace();
    for (int locus = 0; locus < loci; locus++) {
      x.locus(0, 1);
    }
    return x;
  }

  private static void speech() {
    Locihall x = hall(11);
    Due.thrown("38: palace", () -> x.speech(1, 0), Due.BOUNDS);
    Due.thrown("38: points", () -> x.speech(0, 0), Due.ARGUMENT);
    Due.thrown("38: points", () -> x.speech(0, 13), Due.ARGUMENT);
    Due.thrown("38: not so many loci", () -> x.speech(0, 12), Due.ARGUMENT);
    Due.same("38: speech", x.speech(0, 11), 0);
    Due.same("38: speech", x.speech(0, 1), 1);
    x.locus(0, 1);
    Due.same("38: speech", x.speech(0, 12), 2);
    Due.same("38: speech", x.speech(0, 5), 3);
    Due.thrown("38: there are 4", () -> x.speech(0, 1), Due.STATE);
    Due.thrown("38: there are 4, out of range", () -> x.speech(0, 0), Due.ARGUMENT);
    Due.same("38: marks are no traces", x.traces(0, 0), 0);
  }

  private static void speakAndPoint() {
    Locihall x = hall(3);
    Due.thrown("39: none", () -> x.speak(0), Due.BOUNDS);
    Due.thrown("40: none goes on", () -> x.point(), Due.NONE);
    Due.thrown("41: none goes on", () -> x.interrupt(), Due.NONE);
    Due.thrown("42: none goes on", () -> x.resume(), Due.NONE);
    x.speech(0, 3);
    Due.thrown("39: speech", () -> x.speak(1), Due.BOUNDS);
    Due.thrown("39: speech", () -> x.speak(-1), Due.BOUNDS);
    Due.same("39: speak", x.speak(0), 1);
    Due.thrown("39: it goes on", () -> x.speak(0), Due.CANNOT);
    Due.same("40: point", x.point(), 0);
    Due.same("40: point", x.point(), 1);
    Due.same("40: point", x.point(), 2);
    Due.thrown("40: it ended", () -> x.point(), Due.NONE);
    Due.thrown("41: it ended", () -> x.interrupt(), Due.NONE);
    Due.same("39: again", x.speak(0), 1);
    Due.same("40: from the first on", x.point(), 0);
  }

  private static void interruptAndResume() {
    Locihall x = hall(3);
    x.speech(0, 3);
    x.speech(0, 1);
    x.speak(0);
    Due.thrown("42: not interrupted", () -> x.resume(), Due.NONE);
    Due.same("41: all are left", x.interrupt(), 3);
    Due.thrown("41: it was interrupted", () -> x.interrupt(), Due.NONE);
    Due.thrown("40: it was interrupted", () -> x.point(), Due.NONE);
    Due.thrown("39: it was interrupted", () -> x.speak(1), Due.CANNOT);
    x.pass(99);
    Due.same("42: at least 0", x.resume(), 0);
    Due.thrown("42: resumed", () -> x.resume(), Due.NONE);
    x.point();
    x.point();
    Due.same("41: one is left", x.interrupt(), 1);
    x.pass(2);
    Due.same("42: 2 hours", x.resume(), 2);
    x.interrupt();
    x.sleep(3);
    Due.same("42: 3 hours", x.resume(), 1);
    Due.same("41: two are left", x.interrupt(), 2);
    Due.same("42: at once", x.resume(), 1);
    Due.same("40: the one ahead", x.point(), 1);
    Due.same("40: the last one", x.point(), 2);
    Due.thrown("40: it ended", () -> x.point(), Due.NONE);
  }

  private static void digressions() {
    Locihall x = hall(2);
    for (int speech = 0; speech < 4; speech++) {
      x.speech(0, 2);
    }
    for (int speech = 0; speech < 4; speech++) {
      Due.same("39: within", x.speak(3 - speech), speech + 1);
      if (speech < 3) {
        Due.same("40: a first point", x.point(), 0);
      }
    }
    Due.thrown("39: it goes on", () -> x.speak(3), Due.CANNOT);
    Due.same("40: innermost", x.point(), 0);
    for (int speech = 0; speech < 4; speech++) {
      Due.same("40: behind it the one ahead", x.point(), 1);
    }
    Due.thrown("40: all ended", () -> x.point(), Due.NONE);
    x.speak(0);
    x.point();
    x.speak(1);
    x.interrupt();
    x.pass(3);
    x.resume();
    x.point();
    x.point();
    Due.same("40: the outer one is where it was", x.point(), 1);
  }

  private static void fact() {
    Locihall x = new Locihall();
    Due.thrown("43: ease", () -> x.fact(0), Due.ARGUMENT);
    Due.thrown("43: ease", () -> x.fact(6), Due.ARGUMENT);
    for (int fact = 0; fact < 12; fact++) {
      Due.same("43: fact", x.fact(1 + fact % 5), fact);
      Due.same("45: strength", x.strength(fact), 1);
    }
    Due.thrown("43: there are 12", () -> x.fact(1), Due.STATE);
    Due.thrown("43: there are 12, out of range", () -> x.fact(0), Due.ARGUMENT);
    Due.thrown("44: fact", () -> x.review(12), Due.BOUNDS);
    Due.thrown("44: fact", () -> x.review(-1), Due.BOUNDS);
    Due.thrown("45: fact", () -> x.strength(12), Due.BOUNDS);
    Due.thrown("45: fact", () -> x.strength(-1), Due.BOUNDS);
    Due.thrown("46: fact", () -> x.isDue(12), Due.BOUNDS);
    Due.thrown("46: fact", () -> x.isDue(-1), Due.BOUNDS);
  }

  private static void review() {
    Locihall x = new Locihall();
    x.pass(100);
    x.fact(3);
    x.pass(12);
    Due.same("44: since it came", x.review(0), true);
    Due.same("45: twice as much", x.strength(0), 2);
    x.pass(25);
    Due.same("44: too late", x.review(0), false);
    Due.same("45: half", x.strength(0), 1);
    x.pass(13);
    Due.same("44: too late", x.review(0), false);
    Due.same("45: at least 1", x.strength(0), 1);
    for (int count = 0; count < 7; count++) {
      Due.same("44: at once", x.review(0), true);
      Due.same("45: at most 64", x.strength(0), Math.min(64, 2 << count));
    }
    x.pass(768);
    Due.same("44: 4 times 64 times 3", x.review(0), true);
    x.pass(769);
    Due.same("44: one more", x.review(0), false);
    Due.same("45: half", x.strength(0), 32);
  }

  private static void lapses() {
    Locihall x = new Locihall();
    x.fact(1);
    x.fact(5);
    x.fact(1);
    for (int count = 1; count <= 4; count++) {
      x.pass(15);
      x.review(1);
      x.review(2);
      Due.same("47: with 3 lapses", x.leeches(), count >= 3 ? 4 : 0);
    }
    x.review(2);
    Due.same("47: a leech it stays", x.leeches(), 4);
    for (int count = 1; count <= 3; count++) {
      x.pass(999);
      x.review(0);
    }
    Due.same("47: as bits", x.leeches(), 5);
  }

  private static void isDue() {
    Locihall x = new Locihall();
    x.fact(1);
    Due.same("46: not yet", x.isDue(0), false);
    x.pass(3);
    Due.same("46: not yet", x.isDue(0), false);
    x.pass(1);
    Due.same("46: due", x.isDue(0), true);
    Due.same("46: changes nothing", x.strength(0), 1);
    x.pass(1);
    Due.same("46: no more", x.isDue(0), false);
  }

  private static void bestBounds() {
    Locihall x = new Locihall();
    Due.thrown("48: 0", () -> x.bestSum(0), Due.ARGUMENT);
    Due.thrown("48: 6", () -> x.bestSum(6), Due.ARGUMENT);
    Due.thrown("48: none", () -> x.bestSum(1), Due.NONE);
    Due.thrown("49: hour", () -> x.bestAt(2, 2), Due.ARGUMENT);
    Due.thrown("49: hour", () -> x.bestAt(2, -1), Due.ARGUMENT);
    Due.thrown("49: hours", () -> x.bestAt(6, 0), Due.ARGUMENT);
    Due.thrown("49: hours", () -> x.bestAt(0, 0), Due.ARGUMENT);
    Due.thrown("49: none", () -> x.bestAt(1, 0), Due.NONE);
    for (int fact = 0; fact < 4; fact++) {
      x.fact(1);
    }
    Due.same("48: four", x.bestSum(5), 32 + 3);
    x.fact(1);
    Due.thrown("48: five", () -> x.bestSum(1), Due.STATE);
    Due.thrown("48: five, out of range", () -> x.bestSum(0), Due.ARGUMENT);
    Due.thrown("49: five", () -> x.bestAt(1, 0), Due.STATE);
    Due.thrown("49: five, out of range", () -> x.bestAt(1, 1), Due.ARGUMENT);
  }

  private static void bestOfOne() {
    Locihall x = new Locihall();
    x.fact(1);
    Halls.checkPlan("49: one fact", x, 32, 0, 0, 0, 0, 0);
    x.pass(4);
    Halls.checkPlan("49: due", x, 32, 0, 0, 0, 0, 0);
    x.pass(1);
    // Too late: half of 1 is 1, and from there on twice as much by each.
    Halls.checkPlan("49: overdue", x, 2, 0, 0);
    Halls.checkPlan("49: of no use", x, 1, -1);
    for (int count = 0; count < 7; count++) {
      x.review(0);
    }
    Halls.checkPlan("49: no more than 64", x, 64, -1, -1, -1);
    Due.same("48: changes nothing", x.strength(0), 64);
    Due.same("48: nothing lapses", x.leeches(), 0);
    x.pass(256);
    // Still right now, but that is of no use, as a strength by itself does not fade.
    Halls.checkPlan("49: strengths do not fade", x, 64, -1, -1);
  }

  private static void bestOfSome() {
    Locihall x = new Locihall();
    x.fact(1);
    x.fact(1);
    Halls.checkPlan("49: the first of two alike", x, 3, 0);
    Halls.checkPlan("49: one alone, not both", x, 5, 0, 0);
    x.review(1);
    Halls.checkPlan("49: the stronger one", x, 5, 1);
    for (int count = 0; count < 4; count++) {
      x.review(1);
    }
    // 1 and 32: one review of the second, and three of the first.
    Halls.checkPlan("49: up to 64, then the first", x, 64 + 8, 0, 0, 0, 1);
    x.pass(5);
    // The first one is overdue: its first review is of no use, unless another follows.
    Halls.checkPlan("49: none is last", x, 65, 1, -1);
    Halls.checkPlan("49: overdue first", x, 66, 0, 0, 1);
    x.fact(5);
    Halls.checkPlan("49: a third one", x, 64 + 1 + 4, 1, 2, 2);
  }
}
