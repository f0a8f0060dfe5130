/** Promises 12 to 26: palaces and traces. */
public final class PalacesTest {
  public static void main(String[] args) {
    palaceAndLocus();
    cue();
    keyAndLay();
    firstHold();
    pile();
    holdNow();
    threshold();
    guess();
    ghostAndSuggested();
    walk();
    groups();
    groupsOfOne();
    groupsTold();
    wipe();
    pass();
    sleep();
    age();
    Due.end();
  }

  private static void palaceAndLocus() {
    Locihall x = new Locihall();
    for (int palace = 0; palace < 4; palace++) {
      Due.same("12: palace", x.palace(), palace);
    }
    Due.thrown("12: the fifth", () -> x.palace(), Due.STATE);
    Due.thrown("13: palace", () -> x.locus(4, 0), Due.BOUNDS);
    Due.thrown("13: strength", () -> x.locus(0, 0), Due.ARGUMENT);
    Due.thrown("13: strength", () -> x.locus(0, 10), Due.ARGUMENT);
    for (int locus = 1; locus <= 12; locus++) {
      Due.same("13: locus", x.locus(3, 9), locus);
    }
    Due.thrown("13: the thirteenth", () -> x.locus(3, 1), Due.STATE);
    Due.thrown("13: the thirteenth, out of range", () -> x.locus(3, 10), Due.ARGUMENT);
    Due.same("13: another palace", x.locus(0, 1), 1);
  }

  private static void cue() {
    Locihall x = Halls.withWalk(1, 5);
    Halls.lay(x, 0, 0, 10);
    Due.same("14: none at first", x.cue(0, 0, true), false);
    Due.same("14: it had", x.cue(0, 0, true), true);
    Due.same("14: 5 more", x.hold(0, 0, 0), 55f);
    Due.same("14: it had", x.cue(0, 0, false), true);
    Due.same("14: no more", x.hold(0, 0, 0), 50f);
    Due.thrown("14: palace", () -> x.cue(1, 0, true), Due.BOUNDS);
    Due.thrown("14: locus", () -> x.cue(0, 1, true), Due.BOUNDS);
    Due.thrown("14: locus", () -> x.cue(0, -1, true), Due.BOUNDS);
  }

  private static void keyAndLay() {
    Locihall x = Halls.withWalk(1, 1);
    x.image(0, 9);
    x.learn(0, 99, 5);
    x.system(1);
    x.learn(1, 10, 0);
    Due.thrown("16: no keys", () -> x.lay(0, 0, 0, false), Due.CANNOT);
    Due.thrown("15: key", () -> x.key(100), Due.ARGUMENT);
    Due.thrown("15: key", () -> x.key(-1), Due.ARGUMENT);
    Due.same("15: first", x.key(10), 1);
    Due.same("15: second", x.key(99), 2);
    Due.thrown("16: more than it lays", () -> x.lay(0, 0, 1, false), Due.CANNOT);
    Due.thrown("16: palace", () -> x.lay(1, 0, 0, false), Due.BOUNDS);
    Due.thrown("16: locus", () -> x.lay(0, 1, 0, false), Due.BOUNDS);
    Due.thrown("16: system", () -> x.lay(0, 0, 2, false), Due.BOUNDS);
    Due.thrown("16: system -1", () -> x.lay(0, 0, -1, false), Due.BOUNDS);
    Due.same("15: third", x.key(10), 3);
    Due.thrown("15: fourth", () -> x.key(10), Due.STATE);
    Due.thrown("15: fourth, out of range", () -> x.key(100), Due.ARGUMENT);
    x.train(0, 9);
    // Trained: 10, 11, 12, 13, 14, 99 once, 10, 11, 12 twice.
    Due.same("16: tenths", x.lay(0, 0, 0, false), 36 + 40 - 18 - 2 + 36);
    Due.same("50: tenths", x.tenths(), 92L);
    Due.same("15: none then", x.key(10), 1);
    Due.same("16: another system", x.lay(0, 0, 1, true), 40);
    Due.same("50: tenths", x.tenths(), 132L);
    Due.same("17: traces", x.traces(0, 0), 2);
    x.key(55);
    Due.thrown("16: no image", () -> x.lay(0, 0, 0, false), Due.CANNOT);
    Due.same("15: they stay", x.key(10), 2);
    Due.thrown("16: one has no image", () -> x.lay(0, 0, 0, false), Due.CANNOT);
    x.learn(0, 55, 0);
    Due.same("16: it has now", x.lay(0, 0, 0, false), 40 + 36);
  }

  private static void firstHold() {
    Locihall x = Halls.withWalk(3, 9);
    x.image(4, 9);
    x.learn(0, 50, 5);
    Halls.lay(x, 0, 0, 50, 11, 12);
    Due.same("18: of unlike kinds", x.hold(0, 0, 0), 145f);
    x.wipe(0, 0);
    Halls.lay(x, 0, 0, 50, 11, 11);
    Due.same("18: two of a kind", x.hold(0, 0, 0), 135f);
    x.wipe(0, 0);
    Halls.lay(x, 0, 0, 50, 14);
    Due.same("18: two of a kind", x.hold(0, 0, 0), 135f);
    x.wipe(0, 0);
    Halls.lay(x, 0, 0, 10, 50);
    Due.same("18: vividness of the first", x.hold(0, 0, 0), 100f);
    x.wipe(0, 0);
    Halls.lay(x, 0, 0, 50);
    Due.same("18: just one", x.hold(0, 0, 0), 135f);
  }

  private static void pile() {
    Locihall x = Halls.withWalk(1, 9);
    for (int count = 0; count < 8; count++) {
      Halls.lay(x, 0, 0, 10 + count % 5);
      Due.same("17: traces", x.traces(0, 0), Math.min(6, count + 1));
    }
    // Left are 12, 13, 14, 10, 11, 12 from the oldest on.
    for (int left = 5; left >= 0; left--) {
      Due.same("17: topmost", x.recalled(0, 0, 0), 10 + (left + 2) % 5);
      Due.same("23: left", x.wipe(0, 0), left);
    }
    Due.same("17: none", x.traces(0, 0), 0);
    Halls.lay(x, 0, 0, 13, 14);
    Due.same("17: laid anew", x.recalled(0, 0, 1), 14);
    Due.thrown("17: palace", () -> x.traces(1, 0), Due.BOUNDS);
    Due.thrown("17: locus", () -> x.traces(0, 1), Due.BOUNDS);
  }

  private static void holdNow() {
    Locihall x = Halls.withWalk(3, 4);
    Halls.addPalace(x, 2, 1);
    x.image(0, 0);
    x.learn(0, 20, 5);
    Halls.lay(x, 0, 1, 10);
    x.pass(20);
    Due.same("18: half behind 20 hours", x.hold(0, 1, 0), 20f);
    Halls.lay(x, 0, 0, 20);
    Due.same("18: a neighbour of its kind", x.hold(0, 1, 0), 17f);
    Halls.lay(x, 0, 2, 10);
    Due.same("18: two", x.hold(0, 1, 0), 14f);
    Due.same("18: one beside it", x.hold(0, 0, 0), 37f);
    Halls.lay(x, 1, 0, 10);
    Due.same("18: its image elsewhere", x.hold(0, 1, 0), 12f);
    Halls.lay(x, 1, 1, 10);
    Due.same("18: twice", x.hold(0, 1, 0), 10f);
    Due.same("18: another image of its kind", x.hold(0, 0, 0), 37f);
    // In the other palace: 10, less 2 times two, less 3.
    Due.same("18: there", x.hold(1, 0, 0), 3f);
    Halls.lay(x, 1, 1, 11);
    Due.same("18: the topmost one counts", x.hold(0, 1, 0), 12f);
    Due.same("18: buried, with likes and a neighbour", x.hold(1, 1, 1), 3f);
    Due.same("18: on it", x.hold(1, 1, 0), 10f);
    x.learn(0, 10, 4);
    Due.same("18: it keeps its image", x.hold(0, 1, 0), 12f);
    x.age(120);
    Due.same("18: at 120", x.hold(0, 1, 0), 0f);
    x.cue(0, 1, true);
    Due.same("18: the cue comes ahead of the bound", x.hold(0, 1, 0), 5f);
    x.age(20);
    x.pass(999);
    Due.same("18: at least 0", x.hold(1, 0, 0), 0f);
    Due.same("18: as floats", x.hold(1, 1, 0), 10f * 20f / 1019f);
    Due.thrown("18: palace", () -> x.hold(2, 0, 0), Due.BOUNDS);
    Due.thrown("18: locus", () -> x.hold(0, 3, 0), Due.BOUNDS);
    Due.thrown("18: trace", () -> x.hold(0, 0, 1), Due.NONE);
    Due.thrown("18: trace", () -> x.hold(0, 0, -1), Due.NONE);
    Due.thrown("18: trace", () -> x.hold(0, 0, Integer.MIN_VALUE), Due.NONE);
  }

  private static void threshold() {
    Locihall x = Halls.withWalk(2, 4);
    Due.same("19: nothing laid", x.recall(0, 0), '-');
    Halls.lay(x, 0, 0, 10, 10);
    x.pass(20);
    Due.same("19: just 20", x.recall(0, 0), 'r');
    Due.same("20: second", x.recalled(0, 0, 1), 10);
    Due.thrown("20: third", () -> x.recalled(0, 0, 2), Due.NONE);
    x.pass(1);
    Due.same("19: less than 20", x.recall(0, 0), 'p');
    x.pass(39);
    Due.same("19: just 10", x.recall(0, 0), 'p');
    x.pass(1);
    Due.same("19: less than 10", x.recall(0, 0), '-');
    Due.thrown("20: missing", () -> x.recalled(0, 0, 0), Due.NONE);
    Due.thrown("19: palace", () -> x.recall(1, 0), Due.BOUNDS);
    Due.thrown("19: locus", () -> x.recall(0, 2), Due.BOUNDS);
    Due.thrown("20: palace", () -> x.recalled(1, 0, 3), Due.BOUNDS);
    Due.thrown("20: locus", () -> x.recalled(0, 2, 3), Due.BOUNDS);
    Due.thrown("20: which", () -> x.recalled(0, 0, 3), Due.ARGUMENT);
    Due.thrown("20: which", () -> x.recalled(0, 0, -1), Due.ARGUMENT);
  }

  private static void guess() {
    Locihall x = Halls.withWalk(1, 1);
    x.learn(0, 30, 1);
    x.system(1);
    x.learn(1, 0, 1);
    Halls.lay(x, 0, 0, 30, 30, 14);
    x.pass(19);
    // 20 of hold at first: one of three kinds would be 10 more.
    Due.same("19: a guess", x.recall(0, 0), '-');
    x.wipe(0, 0);
    Halls.lay(x, 0, 0, 30, 30, 14);
    Due.same("19: a guess", x.recall(0, 0), 'p');
    Due.same("20: lowest of the kind", x.recalled(0, 0, 0), 11);
    Due.same("20: one by one", x.recalled(0, 0, 1), 11);
    Due.same("20: the third", x.recalled(0, 0, 2), 14);
    x.learn(0, 14, 0);
    Due.thrown("20: none of the kind", () -> x.recalled(0, 0, 2), Due.NONE);
    x.learn(0, 2, 4);
    Due.same("20: one again", x.recalled(0, 0, 2), 2);
    x.learn(0, 30, 3);
    Due.same("20: of the kind as it was laid", x.recalled(0, 0, 0), 11);
  }

  private static void ghostAndSuggested() {
    Locihall x = Halls.withWalk(1, 3);
    x.image(0, 9);
    x.learn(0, 50, 5);
    Halls.lay(x, 0, 0, 50, 11);
    x.key(12);
    x.lay(0, 0, 0, true);
    Due.same("19: false", x.recall(0, 0), 'f');
    Due.same("20: what it tells", x.recalled(0, 0, 0), 12);
    x.pass(15);
    // The suggested one holds 30 * 20 / 35, the one under it 85 * 20 / 35.
    Due.same("19: a ghost", x.recall(0, 0), 'g');
    Due.same("20: of the ghost", x.recalled(0, 0, 1), 11);
    x.pass(70);
    Due.same("19: not even a ghost", x.recall(0, 0), '-');
    x.wipe(0, 0);
    x.wipe(0, 0);
    x.key(50);
    x.lay(0, 0, 0, true);
    x.pass(10);
    Halls.lay(x, 0, 0, 12);
    x.pass(12);
    Due.same("19: a suggested ghost", x.recall(0, 0), 'g');
    Due.same("20: of it", x.recalled(0, 0, 0), 50);
    x.wipe(0, 0);
    Due.same("19: topmost again", x.recall(0, 0), 'f');
    x.pass(53);
    Due.same("19: a guess by a suggested one", x.recall(0, 0), 'p');
  }

  private static void walk() {
    Locihall x = Halls.withWalk(4, 4);
    Halls.lay(x, 0, 0, 10);
    x.key(11);
    x.lay(0, 1, 0, true);
    Halls.lay(x, 0, 2, 12);
    Halls.lay(x, 0, 2, 13);
    x.pass(20);
    x.wipe(0, 2);
    x.age(65);
    Halls.lay(x, 0, 2, 14);
    x.pass(1);
    x.age(20);
    x.cue(0, 0, true);
    x.cue(0, 1, true);
    Due.same("21: r and f", x.walk(0), 3);
    Due.same("21: 10 more, from now", x.hold(0, 0, 0), 55f);
    Due.same("21: f too", x.hold(0, 1, 0), 55f);
    Due.same("21: topmost alone", x.hold(0, 2, 1), 40f * 20f / 41f);
    Due.same("21: topmost", x.hold(0, 2, 0), 50f);
    for (int count = 0; count < 20; count++) {
      x.walk(0);
    }
    Due.same("21: at most 200", x.hold(0, 2, 0), 200f);
    x.pass(999);
    Due.same("21: nothing recalled", x.walk(0), 0);
    Due.same("21: nothing walked to", x.hold(0, 2, 0), 200f * 20f / 1019f);
    Due.thrown("21: palace", () -> x.walk(1), Due.BOUNDS);
  }

  private static void groups() {
    Locihall x = Halls.withWalk(5, 2);
    Halls.lay(x, 0, 0, 11);
    x.image(0, 9);
    x.learn(0, 90, 5);
    x.learn(0, 95, 5);
    Halls.lay(x, 0, 1, 90);
    Halls.lay(x, 0, 2, 13, 14);
    Due.thrown("22: size", () -> x.groups(0, 1), Due.ARGUMENT);
    Due.thrown("22: size", () -> x.groups(0, 5), Due.ARGUMENT);
    Due.thrown("22: size", () -> x.groups(0, -1), Due.ARGUMENT);
    Due.thrown("22: palace", () -> x.groups(1, 1), Due.BOUNDS);
    Due.same("22: two of four", x.groups(0, 4), 2);
    Due.same("22: three of two", x.groups(0, 2), 3);
    x.pass(50);
    // 11 and 90: 11 held 20, and holds less than 10 now; 90 held 65, and holds 18: a guess, no r.
    Due.same("19: beside a guess", x.recall(0, 0), '-');
    x.cue(0, 1, true);
    Due.same("19: inferred", x.recall(0, 0), 'i');
    Due.same("20: inferred", x.recalled(0, 0, 0), 11);
    Due.thrown("20: no second key", () -> x.recalled(0, 0, 1), Due.NONE);
    x.learn(0, 11, 2);
    Due.same("20: any image will do", x.recalled(0, 0, 0), 11);
    // Another first key beside it: 101 less 95 is 6, which has no image at first.
    Halls.lay(x, 0, 1, 95);
    Due.same("19: no image of the key", x.recall(0, 0), '-');
    x.learn(0, 6, 2);
    Due.same("20: it has one", x.recalled(0, 0, 0), 6);
    Due.same("19: the other group", x.recall(0, 2), '-');
    Due.same("22: none", x.groups(0, 0), 0);
    Due.same("19: not inferred", x.recall(0, 0), '-');
    x.wipe(0, 1);
    x.key(90);
    x.lay(0, 1, 0, true);
    x.groups(0, 2);
    Due.same("19: beside a false one", x.recall(0, 0), '-');
  }

  private static void groupsOfOne() {
    Locihall x = Halls.withWalk(3, 1);
    Halls.lay(x, 0, 2, 12, 13);
    Due.same("22: a smaller last one", x.groups(0, 2), 2);
    x.pass(1);
    Due.same("19: a guess is not missing", x.recall(0, 2), 'p');
    x.pass(99);
    Due.same("19: alone in its group", x.recall(0, 2), 'i');
    Due.same("20: alone in its group", x.recalled(0, 2, 0), 12);
    Due.thrown("20: other keys are missing", () -> x.recalled(0, 2, 1), Due.NONE);
    x.locus(0, 9);
    Halls.lay(x, 0, 3, 14);
    x.pass(999);
    Due.same("19: told ahead of this one", x.recall(0, 3), '-');
    Due.same("19: as many as there were", x.recall(0, 2), 'i');
    x.wipe(0, 2);
    Due.same("19: nothing lies there", x.recall(0, 2), '-');
  }

  private static void groupsTold() {
    Locihall x = Halls.withWalk(3, 9);
    x.image(3, 0);
    x.learn(0, 77, 5);
    x.learn(0, 78, 0);
    x.groups(0, 3);
    Halls.lay(x, 0, 0, 10);
    Halls.lay(x, 0, 1, 12);
    Due.same("19: nothing lies there", x.recall(0, 2), '-');
    x.locus(0, 1);
    Halls.lay(x, 0, 2, 77);
    x.pass(200);
    Due.same("19: all three are missing", x.recall(0, 2), '-');
    x.cue(0, 0, true);
    x.cue(0, 1, true);
    // 90 * 20 / 220 and 5 are guesses.
    Due.same("19: guesses are no r", x.recall(0, 2), '-');
    Halls.lay(x, 0, 0, 10);
    Halls.lay(x, 0, 1, 12);
    Due.same("19: none lay there, when it was told", x.recall(0, 2), 'i');
    Due.same("20: 0 less 22, modulo 100", x.recalled(0, 2, 0), 78);
    Due.same("22: told anew", x.groups(0, 3), 2);
    Due.same("20: the key that lies there", x.recalled(0, 2, 0), 77);
    x.wipe(0, 0);
    x.wipe(0, 0);
    Due.same("19: two are missing", x.recall(0, 2), '-');
    x.palace();
    Due.same("22: no loci", x.groups(1, 4), 0);
  }

  private static void wipe() {
    Locihall x = Halls.withWalk(2, 5);
    Due.same("23: nothing to wipe", x.wipe(0, 0), 0);
    Halls.lay(x, 0, 0, 10);
    x.pass(5);
    Halls.lay(x, 0, 0, 11);
    long before = x.tenths();
    Due.same("23: one left", x.wipe(0, 0), 1);
    Due.same("23: topmost again", x.recalled(0, 0, 0), 10);
    Due.same("23: its hold", x.hold(0, 0, 0), 40f);
    Due.same("50: the tenths were taken", x.tenths(), before);
    Due.same("23: none left", x.wipe(0, 0), 0);
    Due.thrown("23: palace", () -> x.wipe(1, 0), Due.BOUNDS);
    Due.thrown("23: locus", () -> x.wipe(0, 2), Due.BOUNDS);
  }

  private static void pass() {
    Locihall x = new Locihall();
    Due.thrown("24: 0", () -> x.pass(0), Due.ARGUMENT);
    Due.thrown("24: 1000", () -> x.pass(1000), Due.ARGUMENT);
    Due.same("24: 999", x.pass(999), 999);
    Due.same("24: 1", x.pass(1), 1000);
    x.sleep(16);
    Due.same("24: sleep passes", x.pass(1), 1017);
  }

  private static void sleep() {
    Locihall x = Halls.withWalk(2, 9);
    Due.thrown("25: 0", () -> x.sleep(0), Due.ARGUMENT);
    Due.thrown("25: 17", () -> x.sleep(17), Due.ARGUMENT);
    Halls.lay(x, 0, 0, 10);
    Halls.lay(x, 0, 0, 11);
    Due.same("25: too short", x.sleep(5), 0);
    Due.same("25: the buried one too", x.sleep(6), 2);
    Due.same("25: 8 more", x.hold(0, 0, 1), 98f * 20f / 31f);
    Halls.lay(x, 0, 1, 12);
    Due.same("25: laid in the hour in which it ended", x.sleep(16), 1);
    Due.same("25: no more", x.hold(0, 0, 0), 98f * 20f / 47f);
    Due.same("25: none", x.sleep(6), 0);
    x.walk(0);
    Due.same("25: walked to", x.sleep(6), 2);
    Due.same("25: a short one between", x.sleep(1), 0);
    x.walk(0);
    for (int count = 0; count < 20; count++) {
      x.walk(0);
    }
    Due.same("25: 200 hold no more", x.sleep(6), 0);
    Due.same("25: at most 200", x.hold(0, 1, 0), 200f * 20f / 26f);
  }

  private static void age() {
    Locihall x = Halls.withWalk(1, 9);
    Halls.lay(x, 0, 0, 10);
    Due.thrown("26: -1", () -> x.age(-1), Due.ARGUMENT);
    Due.thrown("26: 121", () -> x.age(121), Due.ARGUMENT);
    Due.same("26: 20 at first", x.age(64), 20);
    Due.same("26: cut", x.hold(0, 0, 0), 90f);
    Due.same("26: before", x.age(65), 64);
    Due.same("26: one fifth of 5", x.hold(0, 0, 0), 89f);
    x.age(120);
    Due.same("26: one fifth of 60", x.hold(0, 0, 0), 78f);
    x.age(0);
    Due.same("26: young", x.hold(0, 0, 0), 90f);
  }
}
