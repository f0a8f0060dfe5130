/** Promises 12 to 18, 23, 24 and 26: each bound that the document names for palaces, traces and their hold, on both sides. */
public final class PalaceEdgesTest {
  public static void main(String[] args) {
    fourPalaces();
    strengths();
    twelveLoci();
    palaceNumbers();
    palaceNumbersOfNone();
    locusNumbers();
    locusNumbersOfNone();
    cues();
    threeKeys();
    laidSystems();
    tenthsOfAKey();
    firstHold();
    ofUnlikeKinds();
    sixTraces();
    traceNumbers();
    wipedEmpty();
    asIfNeverLaid();
    hours();
    likes();
    likesEverywhere();
    besideInTheWalk();
    besideAtTheEnds();
    besideBuried();
    ages();
    atLeastNought();
    hoursSinceLaid();
    Due.end();
  }

  private static void fourPalaces() {
    Locihall x = new Locihall();
    for (int palace = 0; palace < 4; palace++) {
      int number = palace;
      Due.thrown("13: palace " + number + " is still to come", () -> x.locus(number, 1), Due.BOUNDS);
      Due.due("12: palace " + number, () -> x.palace(), number);
      Due.due("13: a first locus", () -> x.locus(number, 1), 1);
    }
    Due.thrown("12: a fifth palace", () -> x.palace(), Due.STATE);
    Due.thrown("13: no palace 4", () -> x.locus(4, 1), Due.BOUNDS);
  }

  private static void strengths() {
    Due.range("13: strength", 1, 9, strength -> Halls.withWalk(0, 1).locus(0, strength), Due.ARGUMENT);
  }

  private static void twelveLoci() {
    Locihall x = new Locihall();
    x.palace();
    x.palace();
    for (int loci = 1; loci <= 12; loci++) {
      int last = loci - 1;
      Due.thrown("17: locus " + last + " is still to come", () -> x.traces(1, last), Due.BOUNDS);
      Due.due("13: locus " + last, () -> x.locus(1, 9), loci);
      Due.due("17: locus " + last, () -> x.traces(1, last), 0);
    }
    Due.thrown("13: a thirteenth locus", () -> x.locus(1, 1), Due.STATE);
    Due.thrown("17: no locus 12", () -> x.traces(1, 12), Due.BOUNDS);
    Due.due("13: the other palace has none", () -> x.locus(0, 1), 1);
  }

  /** Two palaces of three loci each, with a trace at every locus, and a key to be laid. */
  private static Locihall withTwoPalaces() {
    Locihall x = Halls.withWalk(3, 5);
    Halls.addPalace(x, 3, 5);
    for (int at = 0; at < 3; at++) {
      Halls.lay(x, 0, at, 10 + at);
      Halls.lay(x, 1, at, 11 + at);
    }
    x.key(10);
    return x;
  }

  private static void palaceNumbers() {
    Due.range("13: palace", 0, 1, palace -> withTwoPalaces().locus(palace, 1), Due.BOUNDS);
    Due.range("14: palace", 0, 1, palace -> withTwoPalaces().cue(palace, 0, true), Due.BOUNDS);
    Due.range("16: palace", 0, 1, palace -> withTwoPalaces().lay(palace, 0, 0, false), Due.BOUNDS);
    Due.range("17: palace", 0, 1, palace -> withTwoPalaces().traces(palace, 0), Due.BOUNDS);
    Due.range("18: palace", 0, 1, palace -> withTwoPalaces().hold(palace, 0, 0), Due.BOUNDS);
    Due.range("19: palace", 0, 1, palace -> withTwoPalaces().recall(palace, 0), Due.BOUNDS);
    Due.range("20: palace", 0, 1, palace -> withTwoPalaces().recalled(palace, 0, 0), Due.BOUNDS);
    Due.range("21: palace", 0, 1, palace -> withTwoPalaces().walk(palace), Due.BOUNDS);
    Due.range("22: palace", 0, 1, palace -> withTwoPalaces().groups(palace, 2), Due.BOUNDS);
    Due.range("23: palace", 0, 1, palace -> withTwoPalaces().wipe(palace, 0), Due.BOUNDS);
  }

  private static void palaceNumbersOfNone() {
    Due.range("13: palace of none", 0, -1, palace -> new Locihall().locus(palace, 1), Due.BOUNDS);
    Due.range("14: palace of none", 0, -1, palace -> new Locihall().cue(palace, 0, true), Due.BOUNDS);
    Due.range("16: palace of none", 0, -1, palace -> Halls.withKeys(1).lay(palace, 0, 0, false), Due.BOUNDS);
    Due.range("17: palace of none", 0, -1, palace -> new Locihall().traces(palace, 0), Due.BOUNDS);
    Due.range("18: palace of none", 0, -1, palace -> new Locihall().hold(palace, 0, 0), Due.BOUNDS);
    Due.range("19: palace of none", 0, -1, palace -> new Locihall().recall(palace, 0), Due.BOUNDS);
    Due.range("20: palace of none", 0, -1, palace -> new Locihall().recalled(palace, 0, 0), Due.BOUNDS);
    Due.range("21: palace of none", 0, -1, palace -> new Locihall().walk(palace), Due.BOUNDS);
    Due.range("22: palace of none", 0, -1, palace -> new Locihall().groups(palace, 2), Due.BOUNDS);
    Due.range("23: palace of none", 0, -1, palace -> new Locihall().wipe(palace, 0), Due.BOUNDS);
  }

  private static void locusNumbers() {
    Due.range("14: locus", 0, 2, at -> withTwoPalaces().cue(1, at, true), Due.BOUNDS);
    Due.range("16: locus", 0, 2, at -> withTwoPalaces().lay(1, at, 0, false), Due.BOUNDS);
    Due.range("17: locus", 0, 2, at -> withTwoPalaces().traces(1, at), Due.BOUNDS);
    Due.range("18: locus", 0, 2, at -> withTwoPalaces().hold(1, at, 0), Due.BOUNDS);
    Due.range("19: locus", 0, 2, at -> withTwoPalaces().recall(1, at), Due.BOUNDS);
    Due.range("20: locus", 0, 2, at -> withTwoPalaces().recalled(1, at, 0), Due.BOUNDS);
    Due.range("23: locus", 0, 2, at -> withTwoPalaces().wipe(1, at), Due.BOUNDS);
  }

  private static void locusNumbersOfNone() {
    Due.range("14: locus of none", 0, -1, at -> Halls.withWalk(0, 1).cue(0, at, true), Due.BOUNDS);
    Due.range("16: locus of none", 0, -1, at -> Halls.withWalk(0, 1).lay(0, at, 0, false), Due.BOUNDS);
    Due.range("17: locus of none", 0, -1, at -> Halls.withWalk(0, 1).traces(0, at), Due.BOUNDS);
    Due.range("18: locus of none", 0, -1, at -> Halls.withWalk(0, 1).hold(0, at, 0), Due.BOUNDS);
    Due.range("19: locus of none", 0, -1, at -> Halls.withWalk(0, 1).recall(0, at), Due.BOUNDS);
    Due.range("20: locus of none", 0, -1, at -> Halls.withWalk(0, 1).recalled(0, at, 0), Due.BOUNDS);
    Due.range("23: locus of none", 0, -1, at -> Halls.withWalk(0, 1).wipe(0, at), Due.BOUNDS);
    Due.due("21: a walk without loci", () -> Halls.withWalk(0, 1).walk(0), 0);
  }

  private static void cues() {
    Locihall x = Halls.withWalk(2, 1);
    Due.due("14: none at first", () -> x.cue(0, 1, false), false);
    Due.due("14: still none", () -> x.cue(0, 1, true), false);
    Due.due("14: it had one", () -> x.cue(0, 1, true), true);
    Due.due("14: the other locus has none", () -> x.cue(0, 0, false), false);
    Due.due("14: it had one", () -> x.cue(0, 1, false), true);
    Due.due("14: it has none again", () -> x.cue(0, 1, false), false);
  }

  private static void threeKeys() {
    Due.range("15: key", 0, 99, key -> new Locihall().key(key), Due.ARGUMENT);
    Locihall x = Halls.withWalk(1, 1);
    Due.due("15: first", () -> x.key(14), 1);
    Due.due("15: second", () -> x.key(14), 2);
    Due.due("15: third", () -> x.key(13), 3);
    Due.thrown("15: fourth", () -> x.key(12), Due.STATE);
    x.lay(0, 0, 0, false);
    Due.due("20: the first one", () -> x.recalled(0, 0, 0), 14);
    Due.due("20: the last one", () -> x.recalled(0, 0, 2), 13);
    Due.due("15: first again", () -> x.key(12), 1);
  }

  private static void laidSystems() {
    Due.range("16: system", 0, 0, system -> withTwoPalaces().lay(0, 0, system, false), Due.BOUNDS);
    Locihall x = Halls.withWalk(1, 1);
    Due.thrown("16: no keys", () -> x.lay(0, 0, 0, true), Due.CANNOT);
    for (int at = 0; at < 3; at++) {
      oneWithoutAnImage(at);
    }
  }

  /** The key 15 has no image: it is the first, the second or the third one. */
  private static void oneWithoutAnImage(int at) {
    Locihall x = Halls.withWalk(1, 1);
    for (int count = 0; count < 3; count++) {
      x.key(count == at ? 15 : 10);
    }
    Due.thrown("16: no image of key " + at, () -> x.lay(0, 0, 0, false), Due.CANNOT);
    Due.due("17: nothing was laid", () -> x.traces(0, 0), 0);
    x.learn(0, 15, 0);
    Due.due("16: all have images", () -> x.lay(0, 0, 0, false), 120);
  }

  private static void tenthsOfAKey() {
    Locihall x = Halls.withWalk(1, 1);
    Due.due("16: vividness 0, skill 0", () -> Halls.lay(x, 0, 0, 10), 40);
    Due.due("16: three of them", () -> Halls.lay(x, 0, 0, 10, 11, 12), 120);
    Locihall y = Halls.withKeys(0);
    Halls.addPalace(y, 1, 1);
    Halls.learn(y, 7, 4, 9);
    Due.due("16: vividness 9, skill 0", () -> Halls.lay(y, 0, 0, 7), 22);
    y.train(0, 9);
    Due.due("16: vividness 9, skill 9", () -> Halls.lay(y, 0, 0, 7), 4);
    Due.due("16: three of them", () -> Halls.lay(y, 0, 0, 7, 7, 7), 12);
    Due.due("16: suggested, as any other", () -> Halls.suggest(y, 0, 0, 7), 4);
    Due.due("50: in all", () -> y.tenths(), 22L + 4 + 12 + 4);
  }

  private static float heldAtFirst(int strength, int... keys) {
    Locihall x = Halls.withWalk(1, strength);
    Halls.learn(x, 20, 0, 9);
    Halls.learn(x, 21, 0, 1);
    Halls.lay(x, 0, 0, keys);
    return x.hold(0, 0, 0);
  }

  private static void firstHold() {
    Due.due("18: strength 1, vividness 0", () -> heldAtFirst(1, 10), 10f);
    Due.due("18: strength 9, vividness 0", () -> heldAtFirst(9, 10), 90f);
    Due.due("18: strength 1, vividness 9", () -> heldAtFirst(1, 20), 55f);
    Due.due("18: strength 1, vividness 1", () -> heldAtFirst(1, 21), 15f);
    Due.due("18: the greatest", () -> heldAtFirst(9, 20, 11, 12), 145f);
    Due.due("18: the vividness of the second is nothing", () -> heldAtFirst(1, 11, 20), 20f);
    Due.due("18: the vividness of the third is nothing", () -> heldAtFirst(1, 11, 12, 20), 20f);
  }

  private static void ofUnlikeKinds() {
    Due.due("18: one alone", () -> heldAtFirst(1, 10), 10f);
    Due.due("18: two unlike", () -> heldAtFirst(1, 10, 11), 20f);
    Due.due("18: two of a kind", () -> heldAtFirst(1, 10, 20), 10f);
    Due.due("18: one twice", () -> heldAtFirst(1, 10, 10), 10f);
    Due.due("18: three unlike", () -> heldAtFirst(1, 10, 11, 14), 20f);
    Due.due("18: first and second of a kind", () -> heldAtFirst(1, 10, 20, 11), 10f);
    Due.due("18: second and third of a kind", () -> heldAtFirst(1, 11, 10, 20), 10f);
    Due.due("18: first and third of a kind", () -> heldAtFirst(1, 10, 11, 20), 10f);
    Due.due("18: three of a kind", () -> heldAtFirst(1, 10, 20, 21), 10f);
  }

  /** As many traces at one locus, of the keys 20, 21 and so on, each with an image of its own. */
  private static Locihall withPile(int traces) {
    Locihall x = Halls.withWalk(1, 9);
    for (int trace = 0; trace < traces; trace++) {
      Halls.learn(x, 20 + trace, 0, trace % 10);
      Halls.lay(x, 0, 0, 20 + trace);
    }
    return x;
  }

  private static void sixTraces() {
    for (int laid = 0; laid <= 14; laid++) {
      int traces = Math.min(6, laid);
      int made = laid;
      Due.due("17: traces of " + laid, () -> withPile(made).traces(0, 0), traces);
      Locihall x = withPile(laid);
      for (int left = traces - 1; left >= 0; left--) {
        int topmost = 20 + laid - traces + left;
        Due.due("20: topmost of " + laid, () -> x.recalled(0, 0, 0), topmost);
        Due.due("18: hold of the oldest one that is left", () -> x.hold(0, 0, x.traces(0, 0) - 1), 90f + 5f * ((made - traces) % 10));
        Due.due("23: left of " + laid, () -> x.wipe(0, 0), left);
      }
      Due.due("19: none left of " + laid, () -> x.recall(0, 0), '-');
    }
  }

  private static void traceNumbers() {
    Due.range("18: trace of none", 0, -1, trace -> withPile(0).hold(0, 0, trace), Due.NONE);
    Due.range("18: trace of 1", 0, 0, trace -> withPile(1).hold(0, 0, trace), Due.NONE);
    Due.range("18: trace of 2", 0, 1, trace -> withPile(2).hold(0, 0, trace), Due.NONE);
    Due.range("18: trace of 6", 0, 5, trace -> withPile(6).hold(0, 0, trace), Due.NONE);
    Due.range("18: trace of 7", 0, 5, trace -> withPile(7).hold(0, 0, trace), Due.NONE);
    Due.range("18: trace of 2, a third one wiped", 0, 1, trace -> wiped(withPile(3)).hold(0, 0, trace), Due.NONE);
    Due.range("18: trace of none, one wiped", 0, -1, trace -> wiped(withPile(1)).hold(0, 0, trace), Due.NONE);
    for (int trace = 0; trace < 6; trace++) {
      int asked = trace;
      Due.due("18: from the topmost one", () -> withPile(7).hold(0, 0, asked), 90f + 5f * (6 - asked));
    }
  }

  private static Locihall wiped(Locihall x) {
    x.wipe(0, 0);
    return x;
  }

  private static void wipedEmpty() {
    Locihall x = Halls.withWalk(2, 9);
    Due.due("23: nothing there", () -> x.wipe(0, 0), 0);
    Halls.lay(x, 0, 0, 10);
    Due.due("23: the only one", () -> x.wipe(0, 0), 0);
    Due.due("23: nothing there any more", () -> x.wipe(0, 0), 0);
    Due.thrown("18: no trace", () -> x.hold(0, 0, 0), Due.NONE);
    Halls.lay(x, 0, 0, 11);
    Due.due("20: laid again", () -> x.recalled(0, 0, 0), 11);
    Due.due("17: one", () -> x.traces(0, 0), 1);
    Due.due("17: the other locus has none", () -> x.traces(0, 1), 0);
  }

  private static void asIfNeverLaid() {
    Locihall x = Halls.withWalk(2, 9);
    Halls.addPalace(x, 1, 9);
    Halls.lay(x, 0, 0, 10, 11);
    Halls.lay(x, 0, 1, 10);
    Halls.lay(x, 1, 0, 10);
    Due.due("18: a neighbour and a like", () -> x.hold(0, 0, 0), 100f - 2f - 3f);
    x.wipe(0, 1);
    Due.due("18: no neighbour", () -> x.hold(0, 0, 0), 100f - 2f);
    x.wipe(1, 0);
    Due.due("18: no like", () -> x.hold(0, 0, 0), 100f);
    Halls.lay(x, 0, 0, 12);
    x.wipe(0, 0);
    Due.due("18: on top again", () -> x.hold(0, 0, 0), 100f);
    Due.due("19: recalled again", () -> x.recall(0, 0), 'r');
  }

  private static void hours() {
    Due.range("24: hours", 1, 999, hours -> new Locihall().pass(hours), Due.ARGUMENT);
    Locihall x = new Locihall();
    Due.due("24: from the hour 0", () -> x.pass(1), 1);
    Due.due("24: the greatest step", () -> x.pass(999), 1000);
    for (int count = 0; count < 500; count++) {
      x.pass(999);
    }
    Due.due("24: a long time", () -> x.pass(1), 1001 + 999 * 500);
  }

  private static void likes() {
    Locihall x = Halls.withWalk(3, 9);
    Halls.addPalace(x, 2, 9);
    Halls.addPalace(x, 1, 9);
    int twin = Halls.learn(x, 20, 0, 0);
    Due.is("2: another image", twin == 5);
    Halls.lay(x, 0, 0, 10, 10);
    Halls.lay(x, 0, 2, 10);
    Due.due("18: in its own palace it is no like", () -> x.hold(0, 0, 0), 90f);
    Halls.lay(x, 1, 0, 10);
    Due.due("18: one like", () -> x.hold(0, 0, 0), 88f);
    Due.due("18: two there", () -> x.hold(1, 0, 0), 86f);
    Halls.lay(x, 2, 0, 10, 11);
    Due.due("18: two likes", () -> x.hold(0, 0, 0), 86f);
    Halls.lay(x, 1, 1, 20);
    Due.due("18: another image of its kind is no like", () -> x.hold(0, 0, 0), 86f);
    Halls.lay(x, 1, 1, 11, 10);
    Due.due("18: a second image is no like", () -> x.hold(0, 0, 0), 86f);
    Halls.lay(x, 1, 1, 10);
    Due.due("18: three likes", () -> x.hold(0, 0, 0), 84f);
    Halls.lay(x, 1, 1, 12);
    Due.due("18: a buried one is no like", () -> x.hold(0, 0, 0), 86f);
    Halls.lay(x, 0, 0, 13);
    Due.due("18: buried it has likes", () -> x.hold(0, 0, 1), 86f);
    Due.due("18: on top it has none", () -> x.hold(0, 0, 0), 90f);
    Due.due("18: there one less", () -> x.hold(2, 0, 0), 100f - 2f * 2f);
  }

  private static void likesEverywhere() {
    Locihall x = Halls.withWalk(1, 9);
    Halls.lay(x, 0, 0, 10);
    for (int palace = 1; palace < 4; palace++) {
      Halls.addPalace(x, 12, 1);
      for (int at = 0; at < 12; at++) {
        Halls.lay(x, palace, at, 10);
      }
    }
    Due.due("18: 36 likes", () -> x.hold(0, 0, 0), 90f - 2f * 36f);
    Due.due("18: less than nothing", () -> x.hold(1, 1, 0), 0f);
  }

  private static void besideInTheWalk() {
    Locihall x = Halls.withWalk(5, 9);
    Halls.learn(x, 20, 0, 0);
    Halls.lay(x, 0, 2, 10);
    Due.due("18: nothing beside it", () -> x.hold(0, 2, 0), 90f);
    Halls.lay(x, 0, 0, 10);
    Halls.lay(x, 0, 4, 20);
    Due.due("18: two away is not beside", () -> x.hold(0, 2, 0), 90f);
    Halls.lay(x, 0, 1, 11);
    Due.due("18: of another kind", () -> x.hold(0, 2, 0), 90f);
    Halls.lay(x, 0, 1, 20);
    Due.due("18: of its kind ahead of it", () -> x.hold(0, 2, 0), 87f);
    Halls.lay(x, 0, 3, 20);
    Due.due("18: of its kind on both sides", () -> x.hold(0, 2, 0), 84f);
    x.wipe(0, 1);
    Due.due("18: of its kind behind it", () -> x.hold(0, 2, 0), 87f);
    Halls.lay(x, 0, 3, 12, 20);
    Due.due("18: a second image of its kind", () -> x.hold(0, 2, 0), 90f);
    Halls.lay(x, 0, 3, 10, 12);
    Due.due("18: its image", () -> x.hold(0, 2, 0), 87f);
  }

  private static void besideAtTheEnds() {
    Locihall x = Halls.withWalk(12, 9);
    Halls.lay(x, 0, 0, 10);
    Halls.lay(x, 0, 11, 10);
    Due.due("18: the last one is not beside the first", () -> x.hold(0, 0, 0), 90f);
    Due.due("18: the first one is not beside the last", () -> x.hold(0, 11, 0), 90f);
    Halls.lay(x, 0, 10, 10);
    Due.due("18: beside the last", () -> x.hold(0, 11, 0), 87f);
    Halls.lay(x, 0, 1, 10);
    Due.due("18: beside the first", () -> x.hold(0, 0, 0), 87f);
    Halls.addPalace(x, 1, 9);
    Halls.learn(x, 20, 0, 0);
    Halls.lay(x, 1, 0, 20);
    Due.due("18: another palace is not beside it", () -> x.hold(0, 11, 0), 87f);
    Due.due("18: alone in a walk", () -> x.hold(1, 0, 0), 90f);
  }

  private static void besideBuried() {
    Locihall x = Halls.withWalk(2, 9);
    Halls.lay(x, 0, 0, 10);
    Halls.lay(x, 0, 0, 11);
    Halls.lay(x, 0, 1, 10);
    Due.due("18: beside a buried one of its kind", () -> x.hold(0, 1, 0), 90f);
    Due.due("18: buried beside one of its kind", () -> x.hold(0, 0, 1), 87f);
    Due.due("18: what lies on it is of another kind", () -> x.hold(0, 0, 0), 90f);
    Halls.lay(x, 0, 0, 10);
    Due.due("18: those at its own locus are not beside it", () -> x.hold(0, 0, 0), 87f);
  }

  private static void ages() {
    Due.range("26: age", 0, 120, years -> new Locihall().age(years), Due.ARGUMENT);
    Locihall x = Halls.withWalk(1, 9);
    Halls.lay(x, 0, 0, 10);
    int before = 20;
    int[][] lessByAge = {{0, 0}, {20, 0}, {59, 0}, {60, 0}, {61, 0}, {64, 0}, {65, 1}, {69, 1}, {70, 2}, {119, 11}, {120, 12}};
    for (int[] row : lessByAge) {
      int was = before;
      Due.due("26: the age before", () -> x.age(row[0]), was);
      Due.due("18: at the age of " + row[0], () -> x.hold(0, 0, 0), 90f - row[1]);
      before = row[0];
    }
    Due.due("26: back again", () -> x.age(20), 120);
    Due.due("18: young again", () -> x.hold(0, 0, 0), 90f);
  }

  private static void atLeastNought() {
    Locihall x = Halls.withWalk(1, 1);
    Halls.lay(x, 0, 0, 10);
    x.age(109);
    Due.due("18: above 0", () -> x.hold(0, 0, 0), 1f);
    x.age(110);
    Due.due("18: just 0", () -> x.hold(0, 0, 0), 0f);
    x.age(115);
    Due.due("18: never below 0", () -> x.hold(0, 0, 0), 0f);
    x.cue(0, 0, true);
    Due.due("18: the cue is reckoned ahead of that bound", () -> x.hold(0, 0, 0), 4f);
    Due.due("52: the same", () -> x.meanHold(), 4.0);
    x.cue(0, 0, false);
    Due.due("52: at least 0", () -> x.meanHold(), 0.0);
  }

  private static void hoursSinceLaid() {
    Locihall x = Halls.withWalk(2, 1);
    x.pass(7);
    Halls.lay(x, 0, 0, 10);
    Due.due("18: in its own hour", () -> x.hold(0, 0, 0), 10f);
    x.pass(1);
    Due.due("18: an hour later", () -> x.hold(0, 0, 0), 10f * 20f / 21f);
    x.pass(5);
    // 10 * (20 / 26) would be 7.692308.
    Due.due("18: reckoned from the left", () -> x.hold(0, 0, 0), 7.6923075f);
    x.pass(14);
    Due.due("18: half of it", () -> x.hold(0, 0, 0), 5f);
    x.pass(999);
    Due.due("18: never quite nothing", () -> x.hold(0, 0, 0), 200f / 1039f);
  }
}
