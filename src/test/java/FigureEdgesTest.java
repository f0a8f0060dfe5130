/** Promises 1 and 50 to 53: each bound that the document names for figures, on both sides; and runs of 512 calls. */
public final class FigureEdgesTest {
  public static void main(String[] args) {
    nothingAtFirst();
    tenthsInAll();
    shareOfNone();
    shareOfLociWithTraces();
    shareByR();
    meanOfTopmost();
    consistentWhenFull();
    consistentWhenAlmostEmpty();
    consistentAtTheBounds();
    consistentInContests();
    consistentInSpeeches();
    calls512();
    contests512();
    traces512();
    Due.end();
  }

  private static void nothingAtFirst() {
    Locihall x = new Locihall();
    Due.due("50: no tenths", () -> x.tenths(), 0L);
    Due.thrown("51: no locus", () -> x.heldShare(), Due.ARITHMETIC);
    Due.thrown("52: no locus", () -> x.meanHold(), Due.ARITHMETIC);
    Due.due("53: consistent", () -> x.isConsistent(), true);
    Due.due("2: no image", () -> x.image(0, 0), 0);
    Due.due("3: no system", () -> x.system(1), 0);
    Due.due("12: no palace", () -> x.palace(), 0);
    Due.due("13: no locus", () -> x.locus(0, 1), 1);
    Due.due("15: no key", () -> x.key(0), 1);
    Due.due("43: no fact", () -> x.fact(1), 0);
    Due.due("38: no speech", () -> x.speech(0, 1), 0);
    Due.due("27: no book", () -> x.book(0, 1, 'h'), 1);
    Due.due("28: no standard", () -> x.standard(0, 1), 1);
    Due.due("26: 20 years", () -> x.age(20), 20);
    Due.due("24: the hour 0", () -> x.pass(1), 1);
  }

  private static void tenthsInAll() {
    Locihall x = Halls.withContests(1, 1);
    x.key(1);
    Due.due("50: nothing is laid by a key", () -> x.tenths(), 0L);
    x.lay(0, 0, 0, false);
    Due.due("50: laid", () -> x.tenths(), 40L);
    Due.thrown("16: no keys", () -> x.lay(0, 0, 0, false), Due.CANNOT);
    Due.due("50: nothing by a call that throws", () -> x.tenths(), 40L);
    x.contest(0, 5, 0, 0, 1);
    Due.due("50: laid by a contest", () -> x.tenths(), 80L);
    Due.thrown("29: not closed", () -> x.contest(0, 5, 0, 0, 1), Due.CANNOT);
    x.wipe(0, 0);
    x.answer(0, 9999);
    Due.due("50: those of answers are none of laying", () -> x.tenths(), 80L);
  }

  private static void shareOfNone() {
    Locihall x = Halls.withWalk(2, 9);
    Due.thrown("51: loci without traces", () -> x.heldShare(), Due.ARITHMETIC);
    Due.thrown("52: loci without traces", () -> x.meanHold(), Due.ARITHMETIC);
    Halls.lay(x, 0, 1, 10);
    Due.due("51: one", () -> x.heldShare(), 1f);
    Due.due("52: one", () -> x.meanHold(), 90.0);
    x.wipe(0, 1);
    Due.thrown("51: wiped", () -> x.heldShare(), Due.ARITHMETIC);
    Due.thrown("52: wiped", () -> x.meanHold(), Due.ARITHMETIC);
  }

  private static void shareOfLociWithTraces() {
    Locihall x = Halls.withWalk(12, 9);
    Halls.addPalace(x, 12, 1);
    Halls.lay(x, 1, 11, 10);
    Due.due("51: none of one", () -> x.heldShare(), 0f);
    Halls.lay(x, 0, 0, 11);
    Due.due("51: one of two", () -> x.heldShare(), 0.5f);
    Halls.lay(x, 0, 11, 12);
    Due.due("51: two of three", () -> x.heldShare(), 2f / 3f);
    Halls.lay(x, 0, 11, 13);
    Due.due("51: a locus counts once", () -> x.heldShare(), 2f / 3f);
    Halls.lay(x, 1, 0, 14);
    Due.due("51: two of four", () -> x.heldShare(), 0.5f);
    Due.due("52: of four", () -> x.meanHold(), (90.0 + 90.0 + 10.0 + 10.0) / 4.0);
  }

  private static void shareByR() {
    Locihall x = Halls.withWalk(1, 2);
    Halls.lay(x, 0, 0, 10);
    x.age(64);
    Due.due("51: just 20", () -> x.heldShare(), 1f);
    x.age(65);
    Due.due("51: 19", () -> x.heldShare(), 0f);
    x.age(20);
    x.wipe(0, 0);
    Halls.suggest(x, 0, 0, 10);
    Due.due("51: suggested", () -> x.heldShare(), 0f);
    Halls.learn(x, 20, 3, 3);
    x.wipe(0, 0);
    Halls.lay(x, 0, 0, 20);
    Halls.lay(x, 0, 0, 10);
    x.age(65);
    Due.due("19: a ghost", () -> x.recall(0, 0), 'g');
    Due.due("51: a ghost is not recalled by r", () -> x.heldShare(), 0f);
    Due.due("52: the topmost one", () -> x.meanHold(), 19.0);
  }

  private static void meanOfTopmost() {
    Locihall x = Halls.withWalk(2, 1);
    Halls.addPalace(x, 1, 3);
    Halls.lay(x, 0, 0, 10);
    x.pass(6);
    Halls.lay(x, 0, 1, 11);
    x.pass(1);
    Halls.lay(x, 1, 0, 12);
    x.pass(1);
    double sum = (double) (200f / 28f) + (double) (200f / 22f) + (double) (600f / 21f);
    Due.due("52: each converted to double", () -> x.meanHold(), sum / 3.0);
    Halls.lay(x, 1, 0, 12);
    sum = (double) (200f / 28f) + (double) (200f / 22f) + 30.0;
    double now = sum;
    Due.due("52: the topmost one", () -> x.meanHold(), now / 3.0);
  }

  private static void consistent(String what, Locihall x) {
    Due.due("53: " + what, () -> x.isConsistent(), true);
  }

  private static void consistentWhenFull() {
    Locihall x = Halls.withPlenty();
    consistent("all there can be", x);
    x.age(0);
    consistent("at the age of 0", x);
    x.age(120);
    consistent("at the age of 120", x);
    x.sleep(16);
    consistent("in the hour in which a sleep ended", x);
    x.train(0, 200);
    consistent("trained", x);
    for (int size : new int[] {4, 0, 2}) {
      x.groups(0, size);
      consistent("by " + size, x);
    }
    Due.thrown("3: a fifth system", () -> x.system(1), Due.STATE);
    consistent("behind a call that throws", x);
  }

  private static void consistentWhenAlmostEmpty() {
    Locihall x = new Locihall();
    x.palace();
    consistent("no loci", x);
    for (int size : new int[] {0, 4, 0}) {
      x.groups(0, size);
      consistent("no loci, by " + size, x);
    }
    x.system(1);
    consistent("no images", x);
    x.image(0, 0);
    x.learn(0, 0, 0);
    x.locus(0, 1);
    Halls.lay(x, 0, 0, 0);
    consistent("the lowest hold at first", x);
    x.wipe(0, 0);
    consistent("wiped", x);
    x.tongue(0, 0, 'a');
    x.tongue(2, 9, 'z');
    consistent("letters", x);
  }

  private static void consistentAtTheBounds() {
    Locihall x = Halls.withWalk(1, 9);
    Halls.learn(x, 0, 0, 9);
    x.learn(0, 99, 4);
    Halls.lay(x, 0, 0, 0, 11, 12);
    for (int count = 0; count < 7; count++) {
      x.walk(0);
      consistent("walked to " + count, x);
    }
    for (int count = 0; count < 8; count++) {
      Halls.suggest(x, 0, 0, 99);
      consistent("laid over " + count, x);
    }
    x.fact(1);
    x.fact(5);
    for (int count = 0; count < 7; count++) {
      x.review(1);
      consistent("reviewed " + count, x);
    }
    x.pass(999);
    x.pass(999);
    x.review(0);
    x.review(1);
    consistent("lapsed", x);
  }

  private static void consistentInContests() {
    Locihall x = Halls.withContests(3);
    x.contest(0, 5, 0, 0, 36);
    consistent("begun", x);
    for (int index = 0; index < 36; index++) {
      x.answer(-1, 0);
    }
    consistent("answered", x);
    x.appeal(0);
    consistent("an appeal", x);
    x.appeal(35);
    consistent("two appeals", x);
    x.close();
    consistent("closed", x);
    x.contest(9999, 5, 0, 0, 1);
    consistent("the next one", x);
  }

  private static void consistentInSpeeches() {
    Locihall x = Halls.withSpeeches(12, 1, 2, 3);
    for (int speech = 0; speech < 4; speech++) {
      x.speak(speech);
      consistent("within each other " + speech, x);
      x.interrupt();
      consistent("interrupted " + speech, x);
      x.resume();
      consistent("resumed " + speech, x);
    }
    for (int point = 0; point < 18; point++) {
      x.point();
      consistent("point " + point, x);
    }
    Due.thrown("40: all ended", () -> x.point(), Due.NONE);
  }

  private static void calls512() {
    Locihall x = new Locihall();
    for (int call = 1; call <= 512; call++) {
      int hour = 999 * call;
      Due.due("24: call " + call, () -> x.pass(999), hour);
    }
  }

  private static void contests512() {
    Locihall x = Halls.withKeys(100);
    Halls.addPalace(x, 1, 9);
    // 104 calls made the hall; each contest takes 3.
    for (int year = 0; year < 130; year++) {
      int keys = 1 + year % 3;
      x.contest(year, 5, 0, 0, keys);
      x.answerAll(0);
      Due.due("34: contest of the year " + year, () -> x.close(), keys);
    }
    Due.due("36: of the first year", () -> x.record(0), 1);
    Due.due("36: of the second year", () -> x.record(1), 2);
    Due.due("36: of all years", () -> x.record(9999), 3);
  }

  private static void traces512() {
    Locihall x = Halls.withWalk(1, 9);
    for (int count = 0; count < 240; count++) {
      Halls.lay(x, 0, 0, 10 + count % 5);
    }
    Due.due("17: at most 6", () -> x.traces(0, 0), 6);
    Due.due("50: all of them", () -> x.tenths(), 9600L);
    Due.due("20: the last one", () -> x.recalled(0, 0, 0), 14);
  }
}
