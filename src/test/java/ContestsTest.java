/** Promises 27 to 37: contests. */
public final class ContestsTest {
  public static void main(String[] args) {
    book();
    standard();
    bookThatHolds();
    contest();
    drawing();
    answers();
    answerAll();
    appeal();
    closeAndPoints();
    rows();
    record();
    isSuspect();
    Due.end();
  }

  private static void book() {
    Locihall x = new Locihall();
    Due.thrown("27: year", () -> x.book(-1, 5, 'h'), Due.ARGUMENT);
    Due.thrown("27: year", () -> x.book(10000, 5, 'h'), Due.ARGUMENT);
    Due.thrown("27: row", () -> x.book(0, 0, 'h'), Due.ARGUMENT);
    Due.thrown("27: row", () -> x.book(0, 21, 'h'), Due.ARGUMENT);
    Due.thrown("27: slips", () -> x.book(0, 5, 'H'), Due.ARGUMENT);
    for (int year = 0; year < 8; year++) {
      Due.same("27: book", x.book(9999 - year, 1 + year, "hzf".charAt(year % 3)), year + 1);
    }
    Due.same("27: in place of another one", x.book(9999, 20, 'z'), 8);
    Due.thrown("27: 8 others", () -> x.book(1, 20, 'z'), Due.STATE);
    Due.thrown("27: 8 others, out of range", () -> x.book(1, 20, 'x'), Due.ARGUMENT);
  }

  private static void standard() {
    Locihall x = new Locihall();
    Due.thrown("28: year", () -> x.standard(-1, 1), Due.ARGUMENT);
    Due.thrown("28: year", () -> x.standard(10000, 1), Due.ARGUMENT);
    Due.thrown("28: score", () -> x.standard(0, 0), Due.ARGUMENT);
    Due.thrown("28: score", () -> x.standard(0, 1000), Due.ARGUMENT);
    for (int year = 0; year < 8; year++) {
      Due.same("28: standard", x.standard(year, 999), year + 1);
    }
    Due.same("28: in place of another one", x.standard(3, 1), 8);
    Due.thrown("28: 8 others", () -> x.standard(8, 1), Due.STATE);
    Due.thrown("28: 8 others, out of range", () -> x.standard(8, 0), Due.ARGUMENT);
  }

  private static void bookThatHolds() {
    Locihall x = Halls.withContests(1);
    // The answers are right but for the third of six.
    Due.same("27: 5 and h at first", Halls.score(x, 2000, "rrwrrr"), 3 + 1);
    x.book(2001, 2, 'f');
    Due.same("27: a later one does not hold", Halls.score(x, 2000, "rrwrrr"), 4);
    Due.same("27: of this year", Halls.score(x, 2001, "rrwrrr"), 2);
    x.book(1990, 3, 'z');
    Due.same("27: of an earlier year", Halls.score(x, 2000, "rrwrrr"), 3);
    Due.same("27: the greatest", Halls.score(x, 9999, "rrwrrr"), 2);
    x.book(1990, 1, 'z');
    Due.same("27: in place of another one", Halls.score(x, 1990, "rrwrrr"), 5);
  }

  private static void contest() {
    Locihall x = Halls.withContests(3);
    x.system(3);
    x.palace();
    Due.thrown("29: palace", () -> x.contest(-1, 0, 2, 0, 1), Due.BOUNDS);
    Due.thrown("29: system", () -> x.contest(-1, 0, 0, 2, 1), Due.BOUNDS);
    Due.thrown("29: year", () -> x.contest(-1, 0, 1, 0, 1), Due.ARGUMENT);
    Due.thrown("29: year", () -> x.contest(10000, 0, 1, 0, 1), Due.ARGUMENT);
    Due.thrown("29: seed", () -> x.contest(0, -1, 1, 0, 1), Due.ARGUMENT);
    Due.thrown("29: keys", () -> x.contest(0, 0, 1, 0, 0), Due.ARGUMENT);
    Due.thrown("29: keys", () -> x.contest(0, 0, 1, 0, 37), Due.ARGUMENT);
    Due.thrown("29: no room", () -> x.contest(0, 0, 1, 1, 1), Due.CANNOT);
    Due.thrown("29: none can be drawn", () -> x.contest(0, 0, 0, 1, 1), Due.NONE);
    Due.thrown("30: no contest yet", () -> x.drawn(0), Due.NONE);
    Due.thrown("37: no contest yet", () -> x.isSuspect(), Due.NONE);
    Due.same("29: nothing was laid", x.traces(0, 0), 0);
    x.key(50);
    Due.same("29: room for 36", x.contest(9999, Integer.MAX_VALUE, 0, 0, 36), 36 * 40);
    Due.same("50: tenths", x.tenths(), 1440L);
    Due.same("29: laid along the walk", x.recalled(0, 11, 2), x.drawn(35));
    Due.same("29: from the first on", x.recalled(0, 0, 0), x.drawn(0));
    Due.same("29: one each", x.traces(0, 5), 1);
    Due.same("29: keys that were added stay", x.key(51), 2);
    Due.thrown("29: not closed", () -> x.contest(0, 0, 0, 0, 1), Due.CANNOT);
    Due.thrown("29: not closed, none to be drawn", () -> x.contest(0, 0, 0, 1, 1), Due.CANNOT);
    x.answerAll(0);
    x.close();
    Due.thrown("29: no key has an image", () -> x.contest(0, 0, 0, 1, 1), Due.NONE);
    Due.is("30: of the last one", x.drawn(35) >= 0);
    Due.same("29: four keys", x.contest(0, 0, 0, 0, 4), 160);
    Due.thrown("29: a smaller last one", () -> x.recalled(0, 1, 1), Due.NONE);
    Due.same("29: on the second locus", x.recalled(0, 1, 0), x.drawn(3));
    Due.same("29: none on the third", x.traces(0, 2), 1);
    Due.thrown("30: no such key", () -> x.drawn(4), Due.NONE);
    Due.thrown("30: no such key", () -> x.drawn(-1), Due.NONE);
  }

  private static void drawing() {
    Locihall x = Halls.withContests(1);
    // 12345 / 65536 is 0; then 12345 * 1103515245 + 12345 is 1406932606 modulo 2 to the 31st, and so on.
    x.contest(0, 0, 0, 0, 3);
    Due.same("29: drawn", x.drawn(0), 0);
    Due.same("29: drawn", x.drawn(1), 1406932606 / 65536 % 100);
    Due.same("29: drawn", x.drawn(2), 654583775 / 65536 % 100);
    Locihall y = new Locihall();
    y.image(0, 0);
    y.system(1);
    y.palace();
    y.locus(0, 1);
    // With one key of a hundred the number of draws in vain is told by the seed alone.
    y.learn(0, 42, 0);
    int drawn = 0;
    for (int seed = 0; seed < 120; seed++) {
      int at = seed * 7919;
      boolean comes = Halls.drawsUntil(at, 42) <= 100;
      Due.due("29: seed " + at, () -> y.contest(0, at, 0, 0, 1), comes ? 40 : "NoSuchElementException");
      if (comes) {
        drawn++;
        y.answerAll(0);
        y.close();
      }
    }
    Due.is("29: some of these came, some did not", drawn > 20 && drawn < 100);
    int hundredth = Halls.seedFor(42, 99);
    Due.due("29: the hundredth draw", () -> y.contest(0, hundredth, 0, 0, 1), 40);
    y.answerAll(0);
    y.close();
    int behind = Halls.seedFor(42, 100);
    Due.thrown("29: a hundred in vain", () -> y.contest(0, behind, 0, 0, 1), Due.NONE);
  }

  private static void answers() {
    Locihall x = Halls.withContests(1);
    Due.thrown("31: no contest", () -> x.answer(100, 0), Due.NONE);
    x.contest(0, 1, 0, 0, 3);
    Due.thrown("31: key", () -> x.answer(-2, 0), Due.ARGUMENT);
    Due.thrown("31: key", () -> x.answer(100, 0), Due.ARGUMENT);
    Due.thrown("31: tenths", () -> x.answer(0, -1), Due.ARGUMENT);
    Due.thrown("31: tenths", () -> x.answer(0, 10000), Due.ARGUMENT);
    Due.same("31: answer", x.answer(-1, 0), 1);
    Due.same("31: answer", x.answer(99, 9999), 2);
    Due.same("31: answer", x.answer(0, 0), 3);
    Due.thrown("31: all are given", () -> x.answer(0, 0), Due.STATE);
    Due.thrown("31: all are given, out of range", () -> x.answer(0, -1), Due.ARGUMENT);
    x.close();
    Due.thrown("31: closed", () -> x.answer(0, 0), Due.NONE);
  }

  private static void answerAll() {
    Locihall x = Halls.withContests(2);
    Due.thrown("32: no contest", () -> x.answerAll(-1), Due.NONE);
    x.contest(0, 1, 0, 0, 7);
    Due.thrown("32: tenths", () -> x.answerAll(-1), Due.ARGUMENT);
    Due.thrown("32: tenths", () -> x.answerAll(10000), Due.ARGUMENT);
    int other = (x.drawn(0) + 1) % 100;
    x.answer(other, 0);
    // The third locus tells another key in place of two, the fourth nothing.
    x.key((x.drawn(4) + 1) % 100);
    x.lay(0, 2, 0, true);
    x.wipe(0, 3);
    Due.same("32: right ones", x.answerAll(0), 3);
    Due.same("32: none are missing yet", x.answerAll(9999), 0);
    x.book(0, 1, 'z');
    Due.same("32: the score", x.close(), 3);
    Due.thrown("32: closed", () -> x.answerAll(0), Due.NONE);
  }

  private static void appeal() {
    Locihall x = Halls.withContests(1);
    Due.thrown("33: no contest", () -> x.appeal(0), Due.NONE);
    int seed = 0;
    do {
      seed++;
      x.contest(0, seed, 0, 0, 4);
      x.answer(x.drawn(0) < 99 ? 99 : 98, 0);
      x.answer(Halls.reversed(x.drawn(1)), 0);
      x.answer(Halls.reversed(x.drawn(2)), 0);
      x.answer(-1, 0);
      if (x.drawn(1) % 11 == 0 || x.drawn(2) % 11 == 0) {
        x.close();
      }
    } while (isClosed(x));
    Due.thrown("33: no such answer", () -> x.appeal(4), Due.NONE);
    Due.thrown("33: no such answer", () -> x.appeal(-1), Due.NONE);
    Due.same("33: made right", x.appeal(1), true);
    Due.thrown("33: it is right", () -> x.appeal(1), Due.CANNOT);
    Due.same("33: a missing one", x.appeal(3), false);
    Due.thrown("33: two were heard", () -> x.appeal(2), Due.CANNOT);
    Due.thrown("33: no such answer, two were heard", () -> x.appeal(9), Due.NONE);
    x.book(0, 1, 'z');
    Due.same("33: it counts", x.close(), 1);
    Due.thrown("33: closed", () -> x.appeal(2), Due.NONE);
    x.contest(0, seed, 0, 0, 3);
    x.answer(x.drawn(0), 0);
    Due.thrown("33: it is right", () -> x.appeal(0), Due.CANNOT);
    x.answer(Halls.reversed(x.drawn(1)), 0);
    x.answer(Halls.reversed(x.drawn(2)), 0);
    Due.same("33: two in each", x.appeal(1), true);
    Due.same("33: two in each", x.appeal(2), true);
    Due.same("33: all count", x.close(), 3);
  }

  private static boolean isClosed(Locihall x) {
    return Due.answer(() -> x.answerAll(0)).equals("NoSuchElementException");
  }

  private static void closeAndPoints() {
    Locihall x = Halls.withContests(1);
    Due.thrown("34: no contest", () -> x.close(), Due.NONE);
    Due.thrown("35: none closed", () -> x.points(), Due.NONE);
    x.contest(2000, 5, 0, 0, 7);
    Due.thrown("34: answers are missing", () -> x.close(), Due.STATE);
    Due.thrown("35: none closed", () -> x.points(), Due.NONE);
    x.answerAll(0);
    Due.same("34: close", x.close(), 7);
    Due.thrown("34: closed", () -> x.close(), Due.NONE);
    Due.same("35: 10 without one", x.points(), 700);
    x.standard(2001, 1);
    Due.same("35: a later one", x.points(), 700);
    x.standard(1999, 999);
    Due.same("35: as points are asked", x.points(), 7);
    x.standard(2000, 3);
    Due.same("35: cut", x.points(), 2333);
    x.contest(2005, 5, 0, 0, 2);
    Due.same("35: of the one that was closed last", x.points(), 2333);
    x.answerAll(0);
    x.close();
    Due.same("35: of the one that was closed last", x.points(), 2000);
  }

  private static void rows() {
    Locihall x = Halls.withContests(3);
    x.book(0, 4, 'h');
    x.book(1, 4, 'z');
    x.book(2, 4, 'f');
    x.book(3, 3, 'h');
    x.book(4, 20, 'h');
    x.book(5, 1, 'h');
    checkRow(x, "rrrrrrrr", 8, 8, 8);
    checkRow(x, "rrwrrrrr", 6, 4, 2);
    checkRow(x, "rwwrrrrr", 4, 4, 1);
    checkRow(x, "rwmrwrrr", 2, 0, 1);
    checkRow(x, "rmrrrrrr", 6, 4, 1);
    checkRow(x, "rrrrrrrm", 7, 4, 7);
    checkRow(x, "rrrmmmmm", 3, 0, 3);
    checkRow(x, "rrrmrmmm", 4, 0, 3);
    checkRow(x, "mmmmrrrr", 4, 4, 0);
    checkRow(x, "mrrrrwmm", 2, 0, 0);
    checkRow(x, "rrrrrwrrr", 4 + 2 + 1, 4 + 1, 5);
    checkRow(x, "rrrrrm", 5, 4, 5);
    checkRow(x, "rrrrw", 4 + 1, 4, 4);
    checkRow(x, "rrrrm", 4, 4, 4);
    checkRow(x, "rrrrwr", 5, 4, 4);
    Due.same("34: half of 3, rounded up", Halls.score(x, 3, "rwrrrrrrw"), 2 + 3 + 2);
    Due.same("34: a row longer than all", Halls.score(x, 4, "rrrrwrr"), 4);
    Due.same("34: a row longer than all", Halls.score(x, 4, "rrrrwrw"), 0);
    Due.same("34: rows of one", Halls.score(x, 5, "rwm"), 1 + 1 + 0);
  }

  private static void checkRow(Locihall x, String answers, int half, int nothing, int first) {
    Due.same("34: h " + answers, Halls.score(x, 0, answers), half);
    Due.same("34: z " + answers, Halls.score(x, 1, answers), nothing);
    Due.same("34: f " + answers, Halls.score(x, 2, answers), first);
  }

  private static void record() {
    Locihall x = Halls.withContests(1);
    Due.thrown("36: year", () -> x.record(-1), Due.ARGUMENT);
    Due.thrown("36: year", () -> x.record(10000), Due.ARGUMENT);
    Due.thrown("36: none", () -> x.record(9999), Due.NONE);
    x.contest(2000, 1, 0, 0, 2);
    Due.thrown("36: not closed", () -> x.record(9999), Due.NONE);
    x.answerAll(0);
    x.close();
    Due.same("36: of this year", x.record(2000), 2);
    Due.thrown("36: of an earlier year", () -> x.record(1999), Due.NONE);
    Halls.score(x, 1990, "ww");
    Due.same("36: nothing is a record too", x.record(1999), 0);
    Halls.score(x, 2010, "r");
    Due.same("36: not beaten", x.record(9999), 2);
    Halls.score(x, 2000, "rrr");
    Due.same("36: beaten", x.record(2000), 3);
    Halls.score(x, 1980, "rrrr");
    Due.same("36: an earlier year", x.record(2000), 4);
    Due.same("36: an earlier year", x.record(1989), 4);
    Due.thrown("36: ahead of all", () -> x.record(1979), Due.NONE);
  }

  private static void isSuspect() {
    Locihall x = Halls.withContests(1);
    x.contest(0, 5, 0, 0, 5);
    Due.same("37: without an answer", x.isSuspect(), false);
    x.answer((x.drawn(0) + 1) % 100, 0);
    Due.same("37: a wrong one", x.isSuspect(), false);
    x.answer(x.drawn(1), 11);
    Due.same("37: fewer than 12", x.isSuspect(), true);
    x.answer(x.drawn(2), 12);
    Due.same("37: just half", x.isSuspect(), false);
    x.answer(x.drawn(3), 0);
    Due.same("37: more than half", x.isSuspect(), true);
    x.answer(x.drawn(4), 40);
    Due.same("37: just half", x.isSuspect(), false);
    x.learn(0, x.drawn(1), 0);
    x.close();
    Due.same("37: closed", x.isSuspect(), false);
    x.contest(0, 5, 0, 0, 1);
    x.answerAll(11);
    x.close();
    Due.same("37: 11", x.isSuspect(), true);
    x.train(0, 100);
    Due.same("37: the skill as it is when this is asked", x.isSuspect(), false);
    x.learn(0, x.drawn(0), 0);
    Due.same("37: the skill as it is when this is asked", x.isSuspect(), true);
    x.contest(0, 5, 0, 0, 1);
    Due.same("37: of the new one", x.isSuspect(), false);
  }
}
