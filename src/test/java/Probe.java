import java.util.ArrayList;
import java.util.List;
import java.util.concurrent.Callable;

/** What a hall answers to many calls: two halls in the same state answer the same. */
final class Probe {
  private static final int[] KEYS = {0, 10, 20, 34};
  private static final int[] LOCI = {0, 1, 2, 11};

  private final List<Object> answers = new ArrayList<>();

  private Probe() {
  }

  private void add(String call, Callable<?> made) {
    answers.add(call + " " + Due.answer(made));
  }

  /** All that can be asked, without a change. */
  static List<Object> asked(Locihall x) {
    Probe probe = new Probe();
    for (int system = 0; system < 4; system++) {
      probe.askSystem(x, system);
    }
    for (int palace = 0; palace < 4; palace++) {
      for (int at : LOCI) {
        probe.askLocus(x, palace, at);
      }
    }
    probe.askContest(x);
    probe.askFacts(x);
    probe.add("tenths", () -> x.tenths());
    probe.add("heldShare", () -> x.heldShare());
    probe.add("meanHold", () -> x.meanHold());
    probe.add("isConsistent", () -> x.isConsistent());
    return probe.answers;
  }

  private void askSystem(Locihall x, int system) {
    for (int key : KEYS) {
      add("imageOf", () -> x.imageOf(system, key));
      add("skill", () -> x.skill(system, key));
    }
    add("saved", () -> x.saved(system, 7, 100));
    add("paysBack", () -> x.paysBack(0, system, 2));
  }

  private void askLocus(Locihall x, int palace, int at) {
    add("traces", () -> x.traces(palace, at));
    add("recall", () -> x.recall(palace, at));
    for (int number = 0; number < 3; number++) {
      int which = number;
      add("recalled", () -> x.recalled(palace, at, which));
      add("hold", () -> x.hold(palace, at, which));
    }
  }

  private void askContest(Locihall x) {
    for (int index = 0; index < 6; index++) {
      int asked = index;
      add("drawn", () -> x.drawn(asked));
    }
    add("points", () -> x.points());
    add("record", () -> x.record(2001));
    add("record", () -> x.record(9999));
    add("isSuspect", () -> x.isSuspect());
  }

  private void askFacts(Locihall x) {
    for (int fact = 0; fact < 12; fact++) {
      int asked = fact;
      add("strength", () -> x.strength(asked));
      add("isDue", () -> x.isDue(asked));
    }
    add("leeches", () -> x.leeches());
    add("bestSum", () -> x.bestSum(2));
    add("bestAt", () -> x.bestAt(2, 1));
  }

  /** What is made anew in a hall, told of it, or laid there, and what it answers then. */
  static List<Object> made(Locihall x) {
    Probe probe = new Probe();
    probe.add("key", () -> x.key(10));
    for (int at = 0; at < 3; at++) {
      int asked = at;
      probe.add("lay", () -> x.lay(0, asked, 0, false));
      probe.askLocus(x, 0, at);
      probe.add("cue", () -> x.cue(0, asked, asked == 1));
      probe.add("key", () -> x.key(20));
    }
    probe.add("groups", () -> x.groups(1, 2));
    probe.add("wipe", () -> x.wipe(0, 0));
    probe.add("walk", () -> x.walk(0));
    probe.add("sleep", () -> x.sleep(6));
    probe.add("age", () -> x.age(30));
    probe.add("pass", () -> x.pass(1));
    for (int at = 0; at < 3; at++) {
      probe.askLocus(x, 0, at);
    }
    for (int number = 0; number < 4; number++) {
      int palace = number;
      probe.add("locus", () -> x.locus(palace, 5));
    }
    probe.fade(x);
    for (int number = 0; number < 3; number++) {
      int tongue = number;
      probe.add("tongue", () -> x.tongue(tongue, 9, 'q'));
      probe.add("takeOver", () -> x.takeOver(1, 0, tongue, 0));
    }
    probe.add("train", () -> x.train(0, 1));
    probe.askSystem(x, 0);
    probe.askSystem(x, 1);
    probe.add("learn", () -> x.learn(1, 55, 0));
    probe.add("image", () -> x.image(0, 0));
    probe.add("system", () -> x.system(1));
    probe.add("palace", () -> x.palace());
    return probe.answers;
  }

  /** Long behind it just what a parity tells is left at a weak locus; a sum of nothing asks for the key 0. */
  private void fade(Locihall x) {
    add("learn", () -> x.learn(0, 0, 0));
    add("pass", () -> x.pass(200));
    for (int at = 0; at < 3; at++) {
      askLocus(x, 0, at);
    }
  }

  /** How its contest, its speeches and its facts go on. */
  static List<Object> gone(Locihall x) {
    Probe probe = new Probe();
    probe.add("book", () -> x.book(9998, 5, 'h'));
    probe.add("standard", () -> x.standard(9998, 5));
    probe.add("appeal", () -> x.appeal(1));
    probe.add("answer", () -> x.answer(10, 3));
    probe.add("appeal", () -> x.appeal(2));
    probe.add("appeal", () -> x.appeal(1));
    probe.add("answerAll", () -> x.answerAll(30));
    probe.add("isSuspect", () -> x.isSuspect());
    probe.add("close", () -> x.close());
    probe.askContest(x);
    probe.add("contest", () -> x.contest(2003, 7, 0, 0, 2));
    probe.askContest(x);
    probe.add("resume", () -> x.resume());
    for (int count = 0; count < 3; count++) {
      probe.add("point", () -> x.point());
      probe.add("interrupt", () -> x.interrupt());
      probe.add("resume", () -> x.resume());
      probe.add("speak", () -> x.speak(1));
    }
    probe.add("speech", () -> x.speech(0, 1));
    probe.add("speech", () -> x.speech(1, 1));
    for (int fact = 0; fact < 3; fact++) {
      int asked = fact;
      probe.add("review", () -> x.review(asked));
    }
    probe.add("fact", () -> x.fact(1));
    probe.askFacts(x);
    probe.add("pass", () -> x.pass(9));
    for (int fact = 0; fact < 3; fact++) {
      int asked = fact;
      probe.add("review", () -> x.review(asked));
    }
    probe.askFacts(x);
    return probe.answers;
  }
}
