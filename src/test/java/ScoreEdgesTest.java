/** Promises 27, 28 and 34 to 36: each bound that the document names for rows, scores, points and records, on both sides. */
public final class ScoreEdgesTest {
  public static void main(String[] args) {
    fiveAndHAtFirst();
    halfRoundedUp();
    moreThanOneSlip();
    anySlip();
    upToTheFirstSlip();
    shorterLastRows();
    rowsThatFitJust();
    missingAtTheEnd();
    missingNotAtTheEnd();
    missingAtTheEndOtherwise();
    slipMadeRight();
    booksUpToTheYear();
    booksInPlace();
    standardsUpToTheYear();
    pointsAreCut();
    pointsWithoutAScore();
    pointsOfTheLastOne();
    recordYears();
    greatestScore();
    Due.end();
  }

  private static String times(String letters, int count) {
    return letters.repeat(count);
  }

  private static void check(String what, Locihall x, int year, String answers, int score) {
    Due.due("34: " + what + ", " + answers, () -> Halls.score(x, year, answers), score);
  }

  private static Locihall withBook(int row, char slips) {
    Locihall x = Halls.withContests(3);
    x.book(2000, row, slips);
    return x;
  }

  private static void fiveAndHAtFirst() {
    Locihall x = Halls.withContests(3);
    check("rows of 5", x, 2000, "rwrrr", 3);
    check("rows of 5, the next has its own slip", x, 2000, "rrrrwwrrrr", 6);
    check("rows of 5, two slips in one", x, 2000, "rrrrrwwrrr", 5);
    check("rows of 5, the sixth is a row", x, 2000, "rrrrrw", 6);
    check("rows of 5, the fifth is none", x, 2000, "rrrrw", 3);
    check("of the year 0", x, 0, "wrrrr", 3);
    check("of the year 9999", x, 9999, "wrrrr", 3);
  }

  private static void halfRoundedUp() {
    for (int row = 1; row <= 20; row++) {
      Locihall x = withBook(row, 'h');
      check("no slip in " + row, x, 2000, times("r", row), row);
      check("a slip in " + row, x, 2000, "w" + times("r", row - 1), row - row / 2);
      check("a last slip in " + row, x, 2000, times("r", row - 1) + "w", row - row / 2);
    }
  }

  private static void moreThanOneSlip() {
    for (int row = 2; row <= 20; row++) {
      Locihall x = withBook(row, 'h');
      check("two slips in " + row, x, 2000, "ww" + times("r", row - 2), 0);
      check("first and last in " + row, x, 2000, "w" + times("r", row - 2) + "w", 0);
      check("nothing but slips in " + row, x, 2000, times("w", row), 0);
      check("a missing one and a wrong one in " + row, x, 2000, "m" + times("r", row - 2) + "w", 0);
    }
  }

  private static void anySlip() {
    for (int row = 1; row <= 20; row++) {
      Locihall x = withBook(row, 'z');
      check("z, no slip in " + row, x, 2000, times("r", row), row);
      check("z, a first slip in " + row, x, 2000, "w" + times("r", row - 1), 0);
      check("z, a last slip in " + row, x, 2000, times("r", row - 1) + "w", 0);
      check("z, a last one missing in " + row, x, 2000, times("r", row - 1) + "m", 0);
    }
  }

  private static void upToTheFirstSlip() {
    for (int row : new int[] {1, 5, 20}) {
      Locihall x = withBook(row, 'f');
      for (int first = 0; first <= 12; first++) {
        check("f, wrong at " + first, x, 2000, times("r", first) + times("w", first < 12 ? 1 : 0) + times("r", Math.max(0, 11 - first)), first);
      }
      check("f, missing at 0", x, 2000, "mrrrr", 0);
      check("f, missing at 4", x, 2000, "rrrrmrrr", 4);
      check("f, the first of two", x, 2000, "rrwrmrr", 2);
      check("f, all of 36", x, 2000, times("r", 36), 36);
      check("f, the last of 36", x, 2000, times("r", 35) + "w", 35);
    }
  }

  private static void shorterLastRows() {
    for (int row = 2; row <= 20; row++) {
      for (int last = 1; last < row && row + last <= 36; last++) {
        Locihall x = withBook(row, 'h');
        check("no slip in a last row of " + last, x, 2000, times("r", row + last), row + last);
        check("a slip in a last row of " + last, x, 2000, times("r", row) + "w" + times("r", last - 1), row + last - last / 2);
        check("a slip ahead of a last row of " + last, x, 2000, "w" + times("r", row - 1 + last), row - row / 2 + last);
        Locihall z = withBook(row, 'z');
        check("z, a slip in a last row of " + last, z, 2000, times("r", row) + "w" + times("r", last - 1), row);
        check("z, a slip ahead of a last row of " + last, z, 2000, "w" + times("r", row - 1 + last), last);
      }
    }
  }

  private static void rowsThatFitJust() {
    for (int row : new int[] {1, 2, 3, 4, 6, 9, 12, 18}) {
      Locihall x = withBook(row, 'z');
      check("rows of " + row, x, 2000, times("r", 36), 36);
      check("all but the last row of " + row, x, 2000, times("r", 35) + "w", 36 - row);
      check("all but the first row of " + row, x, 2000, "w" + times("r", 35), 36 - row);
      check("a slip in each row of " + row, x, 2000, times("w" + times("r", row - 1), 36 / row), 0);
    }
  }

  private static void missingAtTheEnd() {
    for (int row = 1; row <= 20; row++) {
      Locihall x = withBook(row, 'h');
      for (int right = 0; right <= row; right++) {
        check("h, missing behind " + right, x, 2000, times("r", right) + times("m", row - right), right);
      }
    }
    Locihall x = withBook(5, 'h');
    check("h, missing from the second row on", x, 2000, "rrrrrrmmmmmmmmm", 6);
    check("h, each row by itself", x, 2000, "rrrmmrrrrm", 3 + 4);
    check("h, a shorter last row", x, 2000, "rrrrrrrm", 5 + 2);
    check("h, all missing", x, 2000, times("m", 36), 0);
  }

  private static void missingNotAtTheEnd() {
    Locihall x = withBook(5, 'h');
    check("h, one missing at the start", x, 2000, "mrrrr", 3);
    check("h, one missing ahead of the last", x, 2000, "rrrmr", 3);
    check("h, two missing apart", x, 2000, "rmrrm", 0);
    check("h, missing ones behind a wrong one", x, 2000, "rrwmm", 0);
    check("h, a wrong one behind missing ones", x, 2000, "rrmmw", 0);
    check("h, a missing one behind a wrong one", x, 2000, "rrrwm", 0);
    check("h, a right one behind missing ones", x, 2000, "rrmmr", 0);
    check("h, just the last one is right", x, 2000, "mmmmr", 0);
  }

  private static void missingAtTheEndOtherwise() {
    check("z, not otherwise", withBook(5, 'z'), 2000, "rrrmm", 0);
    check("z, each row by itself", withBook(5, 'z'), 2000, "rrrrrrrmm", 5);
    check("f, up to the first slip", withBook(5, 'f'), 2000, "rrrmmrrrrr", 3);
  }

  /** A slip that an appeal made right is none. */
  private static void slipMadeRight() {
    for (char slips : new char[] {'h', 'z', 'f'}) {
      Locihall x = withBook(3, slips);
      x.contest(2000, Halls.seedFor(12, 0), 0, 0, 3);
      x.answer(21, 0);
      x.answer(x.drawn(1), 0);
      x.answer(x.drawn(2), 0);
      x.appeal(0);
      Due.due("34: a slip made right, " + slips, () -> x.close(), 3);
    }
  }

  private static void booksUpToTheYear() {
    Locihall x = withBook(4, 'f');
    x.book(1000, 4, 'z');
    x.book(9999, 2, 'z');
    check("ahead of all books", x, 0, "rwrr", 2);
    check("a year ahead of the first", x, 999, "rwrr", 2);
    check("of the first year", x, 1000, "rwrr", 0);
    check("a year ahead of the second", x, 1999, "rwrr", 0);
    check("of the second year", x, 2000, "rwrr", 1);
    check("a year behind it", x, 2001, "rwrr", 1);
    check("a year ahead of the third", x, 9998, "rwrr", 1);
    check("of the third year", x, 9999, "rwrr", 2);
    x.book(0, 1, 'h');
    check("of the year 0", x, 0, "rwrr", 4);
    check("from the year 0 on", x, 999, "rwrm", 3);
  }

  private static void booksInPlace() {
    Locihall x = withBook(4, 'f');
    check("told first", x, 2000, "rwrr", 1);
    x.book(2000, 2, 'z');
    check("in place of it", x, 2000, "rwrr", 2);
    Due.thrown("27: refused", () -> x.book(2000, 21, 'f'), Due.ARGUMENT);
    check("so it holds yet", x, 2000, "rwrr", 2);
    Due.due("27: at most 20 in a row", () -> x.book(2000, 20, 'z'), 1);
    check("a row of 20", x, 2000, times("r", 20) + times("w", 16), 20);
  }

  /** The last contest had the score 7 in the year 2000. */
  private static Locihall withSeven() {
    Locihall x = Halls.withContests(3);
    Halls.score(x, 2000, times("r", 7));
    return x;
  }

  private static void standardsUpToTheYear() {
    Locihall x = withSeven();
    Due.due("35: 10 without one", () -> x.points(), 700);
    x.standard(2001, 1);
    Due.due("35: of a year behind it", () -> x.points(), 700);
    x.standard(0, 14);
    Due.due("35: of the year 0", () -> x.points(), 500);
    x.standard(1999, 28);
    Due.due("35: of the year ahead of it", () -> x.points(), 250);
    x.standard(1000, 2);
    Due.due("35: the greatest year", () -> x.points(), 250);
    x.standard(2000, 5);
    Due.due("35: of this year", () -> x.points(), 1400);
    x.standard(2000, 7);
    Due.due("35: in place of it", () -> x.points(), 1000);
    Due.thrown("28: refused", () -> x.standard(2000, 0), Due.ARGUMENT);
    Due.due("35: so it holds yet", () -> x.points(), 1000);
  }

  private static void pointsAreCut() {
    int[][] pointsByStandard = {{1, 7000}, {2, 3500}, {3, 2333}, {6, 1166}, {7, 1000}, {8, 875}, {9, 777}, {13, 538}, {998, 7}, {999, 7}};
    for (int[] row : pointsByStandard) {
      Locihall x = withSeven();
      x.standard(2000, row[0]);
      Due.due("35: by " + row[0], () -> x.points(), row[1]);
    }
    Locihall x = Halls.withContests(3);
    Halls.score(x, 2000, times("r", 36));
    x.standard(2000, 1);
    Due.due("35: the most", () -> x.points(), 36000);
    Halls.score(x, 2000, "r");
    x.standard(2000, 999);
    Due.due("35: the fewest", () -> x.points(), 1);
  }

  private static void pointsWithoutAScore() {
    Locihall x = Halls.withContests(3);
    Due.thrown("35: none was closed", () -> x.points(), Due.NONE);
    x.contest(2000, 5, 0, 0, 1);
    x.answer(-1, 0);
    Due.thrown("35: it is open", () -> x.points(), Due.NONE);
    Due.due("34: no score", () -> x.close(), 0);
    Due.due("35: no points", () -> x.points(), 0);
  }

  private static void pointsOfTheLastOne() {
    Locihall x = withSeven();
    x.standard(2000, 7);
    x.standard(2005, 2);
    x.contest(2005, 5, 0, 0, 2);
    Due.due("35: another one is open", () -> x.points(), 1000);
    x.answerAll(0);
    Due.due("35: it is open yet", () -> x.points(), 1000);
    x.close();
    Due.due("35: by its score and its year", () -> x.points(), 1000);
    Halls.score(x, 1999, "rrw");
    Due.due("35: of an earlier year, closed last", () -> x.points(), 200);
  }

  private static void recordYears() {
    Due.range("36: year", 0, 9999, year -> withScoreOf(0).record(year), Due.ARGUMENT);
    Due.thrown("36: of the year 9999, asked for a year less", () -> withScoreOf(9999).record(9998), Due.NONE);
    Due.due("36: of the year 9999", () -> withScoreOf(9999).record(9999), 1);
    Due.thrown("36: of the year 1, asked for 0", () -> withScoreOf(1).record(0), Due.NONE);
    Due.thrown("36: no contest", () -> Halls.withContests(1).record(9999), Due.NONE);
    Locihall x = Halls.withContests(1);
    x.contest(0, 5, 0, 0, 1);
    x.answerAll(0);
    Due.thrown("36: none is closed", () -> x.record(9999), Due.NONE);
    x.close();
    Due.due("36: it is closed", () -> x.record(0), 1);
  }

  private static Locihall withScoreOf(int year) {
    Locihall x = Halls.withContests(1);
    Halls.score(x, year, "r");
    return x;
  }

  private static void greatestScore() {
    Locihall x = Halls.withContests(3);
    Halls.score(x, 2000, "m");
    Due.due("36: 0 is a score", () -> x.record(2000), 0);
    Halls.score(x, 2000, "rrr");
    Due.due("36: a greater one", () -> x.record(2000), 3);
    Halls.score(x, 2000, "rr");
    Due.due("36: a smaller one", () -> x.record(2000), 3);
    Halls.score(x, 2001, "rrrr");
    Due.due("36: up to the year ahead", () -> x.record(2000), 3);
    Due.due("36: up to its year", () -> x.record(2001), 4);
    Halls.score(x, 1999, "rrrrr");
    Due.due("36: of an earlier year", () -> x.record(2001), 5);
    Due.due("36: up to the earlier year", () -> x.record(1999), 5);
    Due.thrown("36: ahead of all", () -> x.record(1998), Due.NONE);
    x.contest(1998, 5, 0, 0, 36);
    x.answerAll(0);
    Due.thrown("36: it is not closed", () -> x.record(1998), Due.NONE);
    x.close();
    Due.due("36: 36 of 36", () -> x.record(9999), 36);
  }
}
