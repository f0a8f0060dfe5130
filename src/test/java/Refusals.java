import java.util.ArrayList;
import java.util.List;
import java.util.function.Supplier;

/** The calls that the document refuses: each by itself, and each two reasons that can hold at once. */
final class Refusals {
  /** A call that throws what is listed first, in a hall of that state; the other reason, if there is one, holds too. */
  record Refusal(String method, String why, Supplier<Locihall> state, Due.Made call, Class<?> first, Class<?> also) {
    @Override
    public String toString() {
      return method + ", " + why;
    }
  }

  private final List<Refusal> all = new ArrayList<>();

  static List<Refusal> all() {
    Refusals refusals = new Refusals();
    refusals.images();
    refusals.tables();
    refusals.tongues();
    refusals.training();
    refusals.palaces();
    refusals.laying();
    refusals.recalling();
    refusals.hours();
    refusals.books();
    refusals.contests();
    refusals.answers();
    refusals.scores();
    refusals.speeches();
    refusals.facts();
    refusals.figures();
    return refusals.all;
  }

  private void one(String method, String why, Supplier<Locihall> state, Due.Made call, Class<?> first) {
    all.add(new Refusal(method, why, state, call, first, null));
  }

  private void two(String method, String why, Supplier<Locihall> state, Due.Made call, Class<?> first, Class<?> also) {
    all.add(new Refusal(method, why, state, call, first, also));
  }

  static Locihall empty() {
    return new Locihall();
  }

  /** Something of all, nothing at its bound: a contest with two answers of four, a speech that goes on, a key to be laid. */
  static Locihall busy() {
    Locihall x = new Locihall();
    x.image(0, 9);
    x.image(1, 4);
    x.image(2, 0);
    x.system(2);
    x.system(1);
    x.system(3);
    x.learn(0, 10, 0);
    x.learn(0, 20, 1);
    x.learn(0, 30, 2);
    x.learn(0, 40, 1);
    x.learn(1, 10, 2);
    x.tongue(0, 1, 't');
    x.tongue(0, 0, 'n');
    x.tongue(1, 3, 't');
    x.tongue(1, 4, 'n');
    x.train(0, 3);
    addWalks(x);
    addContests(x);
    x.key(10);
    x.speech(0, 3);
    x.speech(0, 2);
    x.speak(0);
    x.point();
    x.fact(1);
    x.fact(5);
    x.pass(2);
    x.review(1);
    return x;
  }

  private static void addWalks(Locihall x) {
    x.palace();
    x.palace();
    x.palace();
    x.locus(0, 5);
    x.locus(0, 3);
    x.locus(0, 1);
    x.locus(1, 9);
    x.cue(0, 0, true);
    x.age(67);
    x.key(10);
    x.key(20);
    x.lay(0, 0, 0, false);
    x.key(30);
    x.lay(0, 1, 0, true);
    x.key(40);
    x.lay(1, 0, 0, false);
    x.groups(0, 2);
    x.sleep(6);
  }

  private static void addContests(Locihall x) {
    x.book(2000, 2, 'h');
    x.standard(2000, 7);
    x.contest(2001, 7, 0, 0, 3);
    x.answerAll(3);
    x.close();
    x.contest(2002, 8, 0, 0, 4);
    x.answer(x.drawn(0), 2);
    x.answer(-1, 30);
  }

  static Locihall closed() {
    Locihall x = busy();
    x.answerAll(9);
    x.close();
    return x;
  }

  static Locihall allGiven() {
    Locihall x = busy();
    x.answerAll(9);
    return x;
  }

  static Locihall twoHeard() {
    Locihall x = busy();
    x.appeal(1);
    x.appeal(1);
    return x;
  }

  static Locihall interrupted() {
    Locihall x = busy();
    x.interrupt();
    return x;
  }

  static Locihall ended() {
    Locihall x = busy();
    x.point();
    x.point();
    return x;
  }

  static Locihall fourGoOn() {
    Locihall x = full();
    for (int speech = 0; speech < 4; speech++) {
      x.speak(speech);
    }
    return x;
  }

  static Locihall full() {
    return Halls.withPlenty();
  }

  static Locihall withFacts(int facts) {
    Locihall x = busy();
    for (int fact = 2; fact < facts; fact++) {
      x.fact(2);
    }
    return x;
  }

  /** Nothing is laid, but there are loci, and a system with images and one without. */
  static Locihall bare() {
    Locihall x = Halls.withWalk(3, 5);
    x.system(1);
    return x;
  }

  private void images() {
    one("image", "kind", Refusals::busy, x -> x.image(5, 0), Due.ARGUMENT);
    one("image", "vividness", Refusals::busy, x -> x.image(0, 10), Due.ARGUMENT);
    one("image", "30", Refusals::full, x -> x.image(0, 0), Due.STATE);
    two("image", "kind, 30", Refusals::full, x -> x.image(-1, 0), Due.ARGUMENT, Due.STATE);
    two("image", "vividness, 30", Refusals::full, x -> x.image(0, -1), Due.ARGUMENT, Due.STATE);
    one("system", "keys", Refusals::busy, x -> x.system(0), Due.ARGUMENT);
    one("system", "4", Refusals::full, x -> x.system(3), Due.STATE);
    two("system", "keys, 4", Refusals::full, x -> x.system(4), Due.ARGUMENT, Due.STATE);
  }

  private void tables() {
    one("learn", "system", Refusals::busy, x -> x.learn(3, 10, 0), Due.BOUNDS);
    one("learn", "image", Refusals::busy, x -> x.learn(0, 10, 3), Due.BOUNDS);
    one("learn", "key", Refusals::busy, x -> x.learn(0, 100, 0), Due.ARGUMENT);
    two("learn", "system, key", Refusals::busy, x -> x.learn(-1, -1, 0), Due.BOUNDS, Due.ARGUMENT);
    two("learn", "image, key", Refusals::busy, x -> x.learn(0, 100, -1), Due.BOUNDS, Due.ARGUMENT);
    one("imageOf", "system", Refusals::busy, x -> x.imageOf(3, 10), Due.BOUNDS);
    one("imageOf", "key", Refusals::busy, x -> x.imageOf(0, 100), Due.ARGUMENT);
    one("imageOf", "none", Refusals::busy, x -> x.imageOf(0, 11), Due.NONE);
    two("imageOf", "system, key", Refusals::busy, x -> x.imageOf(3, 100), Due.BOUNDS, Due.ARGUMENT);
    two("imageOf", "system, none", Refusals::busy, x -> x.imageOf(3, 11), Due.BOUNDS, Due.NONE);
    two("imageOf", "key, none", Refusals::busy, x -> x.imageOf(2, -1), Due.ARGUMENT, Due.NONE);
    one("skill", "system", Refusals::busy, x -> x.skill(3, 10), Due.BOUNDS);
    one("skill", "key", Refusals::busy, x -> x.skill(0, -1), Due.ARGUMENT);
    two("skill", "system, key", Refusals::busy, x -> x.skill(-1, 100), Due.BOUNDS, Due.ARGUMENT);
  }

  private void tongues() {
    one("tongue", "tongue", Refusals::busy, x -> x.tongue(3, 5, 'a'), Due.ARGUMENT);
    one("tongue", "digit", Refusals::busy, x -> x.tongue(0, 10, 'a'), Due.ARGUMENT);
    one("tongue", "letter", Refusals::busy, x -> x.tongue(0, 5, 'A'), Due.ARGUMENT);
    one("tongue", "taken", Refusals::busy, x -> x.tongue(0, 5, 't'), Due.CANNOT);
    one("tongue", "taken, it has another one", Refusals::busy, x -> x.tongue(0, 0, 't'), Due.CANNOT);
    two("tongue", "digit, taken", Refusals::busy, x -> x.tongue(0, -1, 't'), Due.ARGUMENT, Due.CANNOT);
    two("tongue", "tongue, taken in others", Refusals::busy, x -> x.tongue(-1, 5, 't'), Due.ARGUMENT, Due.CANNOT);
    one("takeOver", "system", Refusals::busy, x -> x.takeOver(3, 0, 0, 1), Due.BOUNDS);
    one("takeOver", "other system", Refusals::busy, x -> x.takeOver(1, 3, 0, 1), Due.BOUNDS);
    one("takeOver", "tongue", Refusals::busy, x -> x.takeOver(1, 0, 3, 1), Due.ARGUMENT);
    one("takeOver", "other tongue", Refusals::busy, x -> x.takeOver(1, 0, 0, -1), Due.ARGUMENT);
    one("takeOver", "the same", Refusals::busy, x -> x.takeOver(0, 0, 0, 1), Due.ARGUMENT);
    two("takeOver", "system, tongue", Refusals::busy, x -> x.takeOver(3, 0, 3, 0), Due.BOUNDS, Due.ARGUMENT);
    two("takeOver", "other system, other tongue", Refusals::busy, x -> x.takeOver(0, 3, 0, 3), Due.BOUNDS, Due.ARGUMENT);
    two("takeOver", "both, the same", Refusals::busy, x -> x.takeOver(3, 3, 0, 1), Due.BOUNDS, Due.ARGUMENT);
  }

  private void training() {
    one("train", "system", Refusals::busy, x -> x.train(3, 1), Due.BOUNDS);
    one("train", "hours", Refusals::busy, x -> x.train(0, 0), Due.ARGUMENT);
    one("train", "hours", Refusals::busy, x -> x.train(0, 201), Due.ARGUMENT);
    two("train", "system, hours", Refusals::busy, x -> x.train(-1, 0), Due.BOUNDS, Due.ARGUMENT);
    one("saved", "system", Refusals::busy, x -> x.saved(3, 1, 1), Due.BOUNDS);
    one("saved", "hours", Refusals::busy, x -> x.saved(0, 201, 1), Due.ARGUMENT);
    one("saved", "keys", Refusals::busy, x -> x.saved(0, 1, 10000), Due.ARGUMENT);
    one("saved", "none", Refusals::busy, x -> x.saved(2, 1, 1), Due.NONE);
    two("saved", "system, hours", Refusals::busy, x -> x.saved(3, 0, 1), Due.BOUNDS, Due.ARGUMENT);
    two("saved", "system, none", Refusals::empty, x -> x.saved(0, 1, 1), Due.BOUNDS, Due.NONE);
    two("saved", "hours, none", Refusals::busy, x -> x.saved(2, 0, 1), Due.ARGUMENT, Due.NONE);
    two("saved", "keys, none", Refusals::busy, x -> x.saved(2, 1, 0), Due.ARGUMENT, Due.NONE);
    one("paysBack", "system", Refusals::busy, x -> x.paysBack(3, 0, 0), Due.BOUNDS);
    one("paysBack", "other system", Refusals::busy, x -> x.paysBack(0, 3, 0), Due.BOUNDS);
    one("paysBack", "hours", Refusals::busy, x -> x.paysBack(0, 1, 201), Due.ARGUMENT);
    one("paysBack", "none", Refusals::busy, x -> x.paysBack(2, 0, 0), Due.NONE);
    one("paysBack", "none of the other", Refusals::busy, x -> x.paysBack(0, 2, 0), Due.NONE);
    two("paysBack", "system, hours", Refusals::busy, x -> x.paysBack(-1, 0, -1), Due.BOUNDS, Due.ARGUMENT);
    two("paysBack", "other system, hours", Refusals::busy, x -> x.paysBack(0, -1, 201), Due.BOUNDS, Due.ARGUMENT);
    two("paysBack", "other system, none", Refusals::busy, x -> x.paysBack(2, 3, 0), Due.BOUNDS, Due.NONE);
    two("paysBack", "hours, none", Refusals::busy, x -> x.paysBack(2, 0, -1), Due.ARGUMENT, Due.NONE);
  }

  private void palaces() {
    one("palace", "4", Refusals::full, x -> x.palace(), Due.STATE);
    one("locus", "palace", Refusals::busy, x -> x.locus(3, 1), Due.BOUNDS);
    one("locus", "strength", Refusals::busy, x -> x.locus(2, 0), Due.ARGUMENT);
    one("locus", "12", Refusals::full, x -> x.locus(0, 9), Due.STATE);
    two("locus", "palace, strength", Refusals::busy, x -> x.locus(3, 10), Due.BOUNDS, Due.ARGUMENT);
    two("locus", "strength, 12", Refusals::full, x -> x.locus(0, 0), Due.ARGUMENT, Due.STATE);
    two("locus", "palace, 12 in another", Refusals::full, x -> x.locus(4, 1), Due.BOUNDS, Due.STATE);
    one("cue", "palace", Refusals::busy, x -> x.cue(3, 0, false), Due.BOUNDS);
    one("cue", "locus", Refusals::busy, x -> x.cue(0, 3, true), Due.BOUNDS);
    one("cue", "locus, of no loci", Refusals::busy, x -> x.cue(2, 0, true), Due.BOUNDS);
    one("walk", "palace", Refusals::busy, x -> x.walk(3), Due.BOUNDS);
    one("groups", "palace", Refusals::busy, x -> x.groups(3, 2), Due.BOUNDS);
    one("groups", "size", Refusals::busy, x -> x.groups(0, 1), Due.ARGUMENT);
    one("groups", "size", Refusals::busy, x -> x.groups(0, 5), Due.ARGUMENT);
    two("groups", "palace, size", Refusals::busy, x -> x.groups(-1, -1), Due.BOUNDS, Due.ARGUMENT);
    one("wipe", "palace", Refusals::busy, x -> x.wipe(3, 0), Due.BOUNDS);
    one("wipe", "locus", Refusals::busy, x -> x.wipe(0, -1), Due.BOUNDS);
    one("wipe", "locus, of another palace", Refusals::busy, x -> x.wipe(1, 1), Due.BOUNDS);
  }

  private void laying() {
    one("key", "key", Refusals::busy, x -> x.key(100), Due.ARGUMENT);
    one("key", "3", Refusals::full, x -> x.key(10), Due.STATE);
    two("key", "key, 3", Refusals::full, x -> x.key(-1), Due.ARGUMENT, Due.STATE);
    one("lay", "palace", Refusals::busy, x -> x.lay(3, 0, 0, false), Due.BOUNDS);
    one("lay", "locus", Refusals::busy, x -> x.lay(0, 3, 0, false), Due.BOUNDS);
    one("lay", "system", Refusals::busy, x -> x.lay(0, 0, 3, true), Due.BOUNDS);
    one("lay", "no keys", Refusals::bare, x -> x.lay(0, 0, 0, false), Due.CANNOT);
    one("lay", "more than it lays", Refusals::full, x -> x.lay(0, 0, 0, false), Due.CANNOT);
    one("lay", "no image", Refusals::busy, x -> x.lay(0, 0, 2, false), Due.CANNOT);
    two("lay", "palace, no keys", Refusals::bare, x -> x.lay(1, 0, 0, false), Due.BOUNDS, Due.CANNOT);
    two("lay", "locus, more than it lays", Refusals::full, x -> x.lay(0, 12, 0, false), Due.BOUNDS, Due.CANNOT);
    two("lay", "locus, no image", Refusals::busy, x -> x.lay(0, -1, 2, false), Due.BOUNDS, Due.CANNOT);
    two("lay", "system, no keys", Refusals::bare, x -> x.lay(0, 0, 2, false), Due.BOUNDS, Due.CANNOT);
  }

  private void recalling() {
    one("traces", "palace", Refusals::busy, x -> x.traces(3, 0), Due.BOUNDS);
    one("traces", "locus", Refusals::busy, x -> x.traces(0, 3), Due.BOUNDS);
    one("hold", "palace", Refusals::busy, x -> x.hold(3, 0, 0), Due.BOUNDS);
    one("hold", "locus", Refusals::busy, x -> x.hold(0, 3, 0), Due.BOUNDS);
    one("hold", "trace", Refusals::busy, x -> x.hold(1, 0, 1), Due.NONE);
    one("hold", "trace", Refusals::bare, x -> x.hold(0, 0, 0), Due.NONE);
    two("hold", "palace, trace", Refusals::busy, x -> x.hold(3, 0, -1), Due.BOUNDS, Due.NONE);
    two("hold", "locus, trace", Refusals::busy, x -> x.hold(0, 3, 6), Due.BOUNDS, Due.NONE);
    one("recall", "palace", Refusals::busy, x -> x.recall(3, 0), Due.BOUNDS);
    one("recall", "locus", Refusals::busy, x -> x.recall(0, 3), Due.BOUNDS);
    one("recalled", "palace", Refusals::busy, x -> x.recalled(3, 0, 0), Due.BOUNDS);
    one("recalled", "locus", Refusals::busy, x -> x.recalled(0, 3, 0), Due.BOUNDS);
    one("recalled", "which", Refusals::busy, x -> x.recalled(0, 0, 3), Due.ARGUMENT);
    one("recalled", "no such key", Refusals::busy, x -> x.recalled(1, 0, 1), Due.NONE);
    one("recalled", "missing", Refusals::bare, x -> x.recalled(0, 0, 0), Due.NONE);
    two("recalled", "palace, which", Refusals::busy, x -> x.recalled(3, 0, 3), Due.BOUNDS, Due.ARGUMENT);
    two("recalled", "locus, which", Refusals::busy, x -> x.recalled(0, 3, -1), Due.BOUNDS, Due.ARGUMENT);
    two("recalled", "locus, missing", Refusals::bare, x -> x.recalled(0, 3, 0), Due.BOUNDS, Due.NONE);
    two("recalled", "which, missing", Refusals::bare, x -> x.recalled(0, 0, 3), Due.ARGUMENT, Due.NONE);
  }

  private void hours() {
    one("pass", "0", Refusals::busy, x -> x.pass(0), Due.ARGUMENT);
    one("pass", "1000", Refusals::busy, x -> x.pass(1000), Due.ARGUMENT);
    one("sleep", "0", Refusals::busy, x -> x.sleep(0), Due.ARGUMENT);
    one("sleep", "17", Refusals::busy, x -> x.sleep(17), Due.ARGUMENT);
    one("age", "-1", Refusals::busy, x -> x.age(-1), Due.ARGUMENT);
    one("age", "121", Refusals::busy, x -> x.age(121), Due.ARGUMENT);
  }

  private void books() {
    one("book", "year", Refusals::busy, x -> x.book(10000, 5, 'z'), Due.ARGUMENT);
    one("book", "row", Refusals::busy, x -> x.book(2000, 21, 'z'), Due.ARGUMENT);
    one("book", "letter", Refusals::busy, x -> x.book(2000, 5, 'a'), Due.ARGUMENT);
    one("book", "8 others", Refusals::full, x -> x.book(2001, 5, 'z'), Due.STATE);
    two("book", "year, 8 others", Refusals::full, x -> x.book(-1, 5, 'z'), Due.ARGUMENT, Due.STATE);
    two("book", "row, 8 others", Refusals::full, x -> x.book(2001, 0, 'z'), Due.ARGUMENT, Due.STATE);
    two("book", "letter, 8 others", Refusals::full, x -> x.book(2001, 5, 'Z'), Due.ARGUMENT, Due.STATE);
    one("standard", "year", Refusals::busy, x -> x.standard(-1, 5), Due.ARGUMENT);
    one("standard", "score", Refusals::busy, x -> x.standard(2000, 1000), Due.ARGUMENT);
    one("standard", "8 others", Refusals::full, x -> x.standard(2001, 5), Due.STATE);
    two("standard", "year, 8 others", Refusals::full, x -> x.standard(10000, 5), Due.ARGUMENT, Due.STATE);
    two("standard", "score, 8 others", Refusals::full, x -> x.standard(2001, 0), Due.ARGUMENT, Due.STATE);
  }

  private void contests() {
    one("contest", "palace", Refusals::closed, x -> x.contest(2003, 7, 3, 0, 2), Due.BOUNDS);
    one("contest", "system", Refusals::closed, x -> x.contest(2003, 7, 0, 3, 2), Due.BOUNDS);
    one("contest", "year", Refusals::closed, x -> x.contest(10000, 7, 0, 0, 2), Due.ARGUMENT);
    one("contest", "seed", Refusals::closed, x -> x.contest(2003, -1, 0, 0, 2), Due.ARGUMENT);
    one("contest", "keys", Refusals::closed, x -> x.contest(2003, 7, 0, 0, 37), Due.ARGUMENT);
    one("contest", "not closed", Refusals::busy, x -> x.contest(2003, 7, 0, 0, 2), Due.CANNOT);
    one("contest", "no room", Refusals::closed, x -> x.contest(2003, 7, 0, 0, 7), Due.CANNOT);
    one("contest", "no room, without loci", Refusals::closed, x -> x.contest(2003, 7, 2, 0, 1), Due.CANNOT);
    one("contest", "no keys to draw", Refusals::closed, x -> x.contest(2003, 7, 0, 2, 2), Due.NONE);
    one("contest", "the last key not to be drawn", Refusals::closed, x -> x.contest(2003, seedInVain(), 0, 1, 2), Due.NONE);
    two("contest", "palace, year", Refusals::closed, x -> x.contest(-1, 7, 3, 0, 2), Due.BOUNDS, Due.ARGUMENT);
    two("contest", "system, keys", Refusals::closed, x -> x.contest(2003, 7, 0, 3, 0), Due.BOUNDS, Due.ARGUMENT);
    two("contest", "palace, not closed", Refusals::busy, x -> x.contest(2003, 7, -1, 0, 2), Due.BOUNDS, Due.CANNOT);
    two("contest", "palace, no keys to draw", Refusals::closed, x -> x.contest(2003, 7, 3, 2, 2), Due.BOUNDS, Due.NONE);
    two("contest", "seed, not closed", Refusals::busy, x -> x.contest(2003, -1, 0, 0, 2), Due.ARGUMENT, Due.CANNOT);
    two("contest", "keys, no room", Refusals::closed, x -> x.contest(2003, 7, 0, 0, 37), Due.ARGUMENT, Due.CANNOT);
    two("contest", "keys, no room", Refusals::closed, x -> x.contest(2003, 7, 2, 0, 37), Due.ARGUMENT, Due.CANNOT);
    two("contest", "year, no keys to draw", Refusals::closed, x -> x.contest(-1, 7, 0, 2, 2), Due.ARGUMENT, Due.NONE);
    two("contest", "not closed, no keys to draw", Refusals::busy, x -> x.contest(2003, 7, 0, 2, 2), Due.CANNOT, Due.NONE);
    two("contest", "no room, no keys to draw", Refusals::closed, x -> x.contest(2003, 7, 0, 2, 10), Due.CANNOT, Due.NONE);
  }

  /** By this seed the key 10 comes once in time, and then not within a hundred draws. */
  private static int seedInVain() {
    return Halls.seedForTwo(10, 100, 1000, 100);
  }

  private void answers() {
    one("drawn", "none", Refusals::empty, x -> x.drawn(0), Due.NONE);
    one("drawn", "index", Refusals::busy, x -> x.drawn(4), Due.NONE);
    one("drawn", "index", Refusals::busy, x -> x.drawn(-1), Due.NONE);
    one("answer", "no contest", Refusals::empty, x -> x.answer(10, 0), Due.NONE);
    one("answer", "closed", Refusals::closed, x -> x.answer(10, 0), Due.NONE);
    one("answer", "key", Refusals::busy, x -> x.answer(-2, 0), Due.ARGUMENT);
    one("answer", "tenths", Refusals::busy, x -> x.answer(10, 10000), Due.ARGUMENT);
    one("answer", "all given", Refusals::allGiven, x -> x.answer(10, 0), Due.STATE);
    two("answer", "closed, key", Refusals::closed, x -> x.answer(100, 0), Due.NONE, Due.ARGUMENT);
    two("answer", "closed, all given", Refusals::closed, x -> x.answer(-1, 0), Due.NONE, Due.STATE);
    two("answer", "tenths, all given", Refusals::allGiven, x -> x.answer(10, -1), Due.ARGUMENT, Due.STATE);
    one("answerAll", "no contest", Refusals::empty, x -> x.answerAll(0), Due.NONE);
    one("answerAll", "closed", Refusals::closed, x -> x.answerAll(0), Due.NONE);
    one("answerAll", "tenths", Refusals::busy, x -> x.answerAll(10000), Due.ARGUMENT);
    two("answerAll", "closed, tenths", Refusals::closed, x -> x.answerAll(-1), Due.NONE, Due.ARGUMENT);
    one("appeal", "no contest", Refusals::empty, x -> x.appeal(0), Due.NONE);
    one("appeal", "closed", Refusals::closed, x -> x.appeal(1), Due.NONE);
    one("appeal", "no such answer", Refusals::busy, x -> x.appeal(2), Due.NONE);
    one("appeal", "no such answer", Refusals::busy, x -> x.appeal(-1), Due.NONE);
    one("appeal", "two were heard", Refusals::twoHeard, x -> x.appeal(1), Due.CANNOT);
    one("appeal", "it is right", Refusals::busy, x -> x.appeal(0), Due.CANNOT);
    two("appeal", "no such answer, two were heard", Refusals::twoHeard, x -> x.appeal(2), Due.NONE, Due.CANNOT);
    two("appeal", "closed, it is right", Refusals::closed, x -> x.appeal(0), Due.NONE, Due.CANNOT);
  }

  private void scores() {
    one("close", "no contest", Refusals::empty, x -> x.close(), Due.NONE);
    one("close", "closed", Refusals::closed, x -> x.close(), Due.NONE);
    one("close", "answers are missing", Refusals::busy, x -> x.close(), Due.STATE);
    one("points", "none closed", Refusals::empty, x -> x.points(), Due.NONE);
    one("points", "none closed yet", Refusals::firstOpen, x -> x.points(), Due.NONE);
    one("record", "year", Refusals::busy, x -> x.record(10000), Due.ARGUMENT);
    one("record", "none", Refusals::busy, x -> x.record(2000), Due.NONE);
    one("record", "none closed yet", Refusals::firstOpen, x -> x.record(9999), Due.NONE);
    two("record", "year, none", Refusals::empty, x -> x.record(-1), Due.ARGUMENT, Due.NONE);
    one("isSuspect", "no contest", Refusals::empty, x -> x.isSuspect(), Due.NONE);
  }

  static Locihall firstOpen() {
    Locihall x = Halls.withContests(1, 3);
    x.contest(2000, 5, 0, 0, 2);
    return x;
  }

  private void speeches() {
    one("speech", "palace", Refusals::busy, x -> x.speech(3, 1), Due.BOUNDS);
    one("speech", "points", Refusals::busy, x -> x.speech(0, 0), Due.ARGUMENT);
    one("speech", "not so many loci", Refusals::busy, x -> x.speech(0, 4), Due.ARGUMENT);
    one("speech", "4", Refusals::full, x -> x.speech(0, 1), Due.STATE);
    two("speech", "palace, points", Refusals::busy, x -> x.speech(-1, 13), Due.BOUNDS, Due.ARGUMENT);
    two("speech", "palace, 4", Refusals::full, x -> x.speech(4, 1), Due.BOUNDS, Due.STATE);
    two("speech", "points, 4", Refusals::full, x -> x.speech(0, 13), Due.ARGUMENT, Due.STATE);
    two("speech", "not so many loci, 4", Refusals::full, x -> x.speech(1, 2), Due.ARGUMENT, Due.STATE);
    one("speak", "speech", Refusals::busy, x -> x.speak(2), Due.BOUNDS);
    one("speak", "it goes on", Refusals::busy, x -> x.speak(0), Due.CANNOT);
    one("speak", "4 go on", Refusals::fourGoOn, x -> x.speak(3), Due.CANNOT);
    one("speak", "interrupted", Refusals::interrupted, x -> x.speak(1), Due.CANNOT);
    two("speak", "speech, 4 go on", Refusals::fourGoOn, x -> x.speak(4), Due.BOUNDS, Due.CANNOT);
    two("speak", "speech, interrupted", Refusals::interrupted, x -> x.speak(-1), Due.BOUNDS, Due.CANNOT);
    one("point", "none", Refusals::empty, x -> x.point(), Due.NONE);
    one("point", "ended", Refusals::ended, x -> x.point(), Due.NONE);
    one("point", "interrupted", Refusals::interrupted, x -> x.point(), Due.NONE);
    one("interrupt", "none", Refusals::empty, x -> x.interrupt(), Due.NONE);
    one("interrupt", "ended", Refusals::ended, x -> x.interrupt(), Due.NONE);
    one("interrupt", "interrupted", Refusals::interrupted, x -> x.interrupt(), Due.NONE);
    one("resume", "none", Refusals::empty, x -> x.resume(), Due.NONE);
    one("resume", "it goes on", Refusals::busy, x -> x.resume(), Due.NONE);
    one("resume", "ended", Refusals::ended, x -> x.resume(), Due.NONE);
  }

  private void facts() {
    one("fact", "ease", Refusals::busy, x -> x.fact(0), Due.ARGUMENT);
    one("fact", "12", Refusals::full, x -> x.fact(1), Due.STATE);
    two("fact", "ease, 12", Refusals::full, x -> x.fact(6), Due.ARGUMENT, Due.STATE);
    one("review", "fact", Refusals::busy, x -> x.review(2), Due.BOUNDS);
    one("review", "none", Refusals::empty, x -> x.review(0), Due.BOUNDS);
    one("strength", "fact", Refusals::busy, x -> x.strength(2), Due.BOUNDS);
    one("isDue", "fact", Refusals::busy, x -> x.isDue(-1), Due.BOUNDS);
    one("bestSum", "hours", Refusals::busy, x -> x.bestSum(6), Due.ARGUMENT);
    one("bestSum", "more than 4 facts", () -> withFacts(5), x -> x.bestSum(1), Due.STATE);
    one("bestSum", "none", Refusals::bare, x -> x.bestSum(1), Due.NONE);
    two("bestSum", "hours, more than 4 facts", () -> withFacts(5), x -> x.bestSum(0), Due.ARGUMENT, Due.STATE);
    two("bestSum", "hours, none", Refusals::bare, x -> x.bestSum(6), Due.ARGUMENT, Due.NONE);
    one("bestAt", "hours", Refusals::busy, x -> x.bestAt(6, 0), Due.ARGUMENT);
    one("bestAt", "hour", Refusals::busy, x -> x.bestAt(3, 3), Due.ARGUMENT);
    one("bestAt", "more than 4 facts", () -> withFacts(5), x -> x.bestAt(1, 0), Due.STATE);
    one("bestAt", "none", Refusals::bare, x -> x.bestAt(1, 0), Due.NONE);
    two("bestAt", "hours, more than 4 facts", () -> withFacts(12), x -> x.bestAt(0, 0), Due.ARGUMENT, Due.STATE);
    two("bestAt", "hour, more than 4 facts", () -> withFacts(5), x -> x.bestAt(1, 1), Due.ARGUMENT, Due.STATE);
    two("bestAt", "hour, none", Refusals::bare, x -> x.bestAt(5, -1), Due.ARGUMENT, Due.NONE);
  }

  private void figures() {
    one("heldShare", "no loci", Refusals::empty, x -> x.heldShare(), Due.ARITHMETIC);
    one("heldShare", "no traces", Refusals::bare, x -> x.heldShare(), Due.ARITHMETIC);
    one("meanHold", "no loci", Refusals::empty, x -> x.meanHold(), Due.ARITHMETIC);
    one("meanHold", "no traces", Refusals::bare, x -> x.meanHold(), Due.ARITHMETIC);
  }
}
