/** Promises 38 to 42: each bound that the document names for speeches, on both sides. */
public final class SpeechEdgesTest {
  public static void main(String[] args) {
    pointNumbers();
    notSoManyLoci();
    palaceNumbers();
    fourSpeeches();
    speechNumbers();
    nothingGoesOn();
    pointByPoint();
    aSpeechOfOnePoint();
    fourWithinEachOther();
    behindTheLastOne();
    howManyAreLeft();
    wasInterrupted();
    moreThanTwoHours();
    hoursOfAllKinds();
    atLeastNought();
    againAndAgain();
    theInnermostOne();
    marksAreNoTraces();
    Due.end();
  }

  private static void pointNumbers() {
    Due.range("38: points", 1, 12, points -> Halls.withSpeeches(12).speech(0, points), Due.ARGUMENT);
  }

  private static void notSoManyLoci() {
    for (int loci = 0; loci <= 12; loci++) {
      Locihall x = new Locihall();
      Halls.addPalace(x, loci, 1);
      int most = loci;
      Due.range("38: points of " + loci + " loci", 1, most, points -> x.speech(0, points), Due.ARGUMENT);
    }
    Locihall x = new Locihall();
    Halls.addPalace(x, 11, 1);
    Halls.addPalace(x, 12, 1);
    Due.thrown("38: one locus is missing", () -> x.speech(0, 12), Due.ARGUMENT);
    Due.due("38: in the other palace there are as many", () -> x.speech(1, 12), 0);
    x.locus(0, 1);
    Due.due("38: there are now", () -> x.speech(0, 12), 1);
  }

  private static void palaceNumbers() {
    Due.range("38: palace", 0, 0, palace -> Halls.withSpeeches(1).speech(palace, 1), Due.BOUNDS);
    Due.range("38: palace of none", 0, -1, palace -> new Locihall().speech(palace, 1), Due.BOUNDS);
  }

  private static void fourSpeeches() {
    Locihall x = Halls.withSpeeches(3);
    for (int speech = 1; speech < 4; speech++) {
      int number = speech;
      Due.thrown("39: speech " + number + " is still to come", () -> x.speak(number), Due.BOUNDS);
      Due.due("38: speech " + number, () -> x.speech(0, 3), number);
    }
    Due.thrown("38: a fifth speech", () -> x.speech(0, 3), Due.STATE);
    Due.thrown("39: no speech 4", () -> x.speak(4), Due.BOUNDS);
    Due.due("39: speech 3", () -> x.speak(3), 1);
  }

  private static void speechNumbers() {
    Due.range("39: speech", 0, 1, speech -> Halls.withSpeeches(2, 2).speak(speech), Due.BOUNDS);
    Due.range("39: speech of none", 0, -1, speech -> new Locihall().speak(speech), Due.BOUNDS);
  }

  private static void nothingGoesOn() {
    for (Locihall x : new Locihall[] {new Locihall(), Halls.withSpeeches(2, 2)}) {
      Due.thrown("40: none goes on", () -> x.point(), Due.NONE);
      Due.thrown("41: none goes on", () -> x.interrupt(), Due.NONE);
      Due.thrown("42: none goes on", () -> x.resume(), Due.NONE);
    }
  }

  private static void pointByPoint() {
    for (int points = 1; points <= 12; points++) {
      Locihall x = Halls.withSpeeches(points, 12);
      for (int time = 0; time < 2; time++) {
        Due.due("39: begun", () -> x.speak(0), 1);
        for (int point = 0; point < points; point++) {
          Due.thrown("39: it goes on ahead of point " + point, () -> x.speak(0), Due.CANNOT);
          Due.due("40: point of " + points, () -> x.point(), point);
        }
        Due.thrown("40: behind the last one of " + points, () -> x.point(), Due.NONE);
      }
    }
  }

  private static void aSpeechOfOnePoint() {
    Locihall x = Halls.withSpeeches(1);
    x.speak(0);
    Due.due("41: one is left", () -> x.interrupt(), 1);
    Due.due("42: the first one", () -> x.resume(), 0);
    Due.due("40: the only one", () -> x.point(), 0);
    Due.thrown("41: it ended", () -> x.interrupt(), Due.NONE);
    Due.thrown("42: it ended", () -> x.resume(), Due.NONE);
    Due.due("39: it can begin again", () -> x.speak(0), 1);
  }

  private static void fourWithinEachOther() {
    Locihall x = Halls.withSpeeches(2, 1, 2, 2);
    int[] order = {2, 0, 3, 1};
    for (int depth = 0; depth < 4; depth++) {
      int speech = order[depth];
      Due.due("39: " + depth + " go on already", () -> x.speak(speech), depth + 1);
      for (int number = 0; number <= depth; number++) {
        int going = order[number];
        Due.thrown("39: it goes on", () -> x.speak(going), Due.CANNOT);
      }
    }
    Due.due("40: the innermost one ends", () -> x.point(), 0);
    Due.due("39: so a fourth one can begin", () -> x.speak(1), 4);
  }

  private static void behindTheLastOne() {
    Locihall x = Halls.withSpeeches(3, 2, 1);
    x.speak(0);
    Due.due("40: first of the outer one", () -> x.point(), 0);
    x.speak(1);
    Due.due("40: first of the inner one", () -> x.point(), 0);
    x.speak(2);
    Due.due("40: the innermost one is told", () -> x.point(), 0);
    Due.due("39: it can begin within the other again", () -> x.speak(2), 3);
    Due.due("40: from its first point", () -> x.point(), 0);
    Due.due("40: last of the inner one", () -> x.point(), 1);
    Due.due("40: second of the outer one", () -> x.point(), 1);
    Due.due("39: none goes on but the outer one", () -> x.speak(1), 2);
    Due.due("40: from its first point", () -> x.point(), 0);
  }

  private static void howManyAreLeft() {
    for (int told = 0; told < 12; told++) {
      Locihall x = Halls.withSpeeches(12);
      x.speak(0);
      for (int point = 0; point < told; point++) {
        x.point();
      }
      Due.due("41: left behind " + told, () -> x.interrupt(), 12 - told);
      int next = told;
      Due.due("42: next behind " + told, () -> x.resume(), next);
      Due.due("40: next behind " + told, () -> x.point(), next);
    }
  }

  private static void wasInterrupted() {
    Locihall x = Halls.withSpeeches(2, 2);
    x.speak(0);
    Due.thrown("42: it was not interrupted", () -> x.resume(), Due.NONE);
    x.interrupt();
    Due.thrown("39: it was interrupted, another one", () -> x.speak(1), Due.CANNOT);
    Due.thrown("39: it was interrupted, the same", () -> x.speak(0), Due.CANNOT);
    Due.thrown("40: it was interrupted", () -> x.point(), Due.NONE);
    Due.thrown("41: it was interrupted", () -> x.interrupt(), Due.NONE);
    Due.due("42: resumed", () -> x.resume(), 0);
    Due.thrown("42: it was resumed", () -> x.resume(), Due.NONE);
    Due.due("39: a digression", () -> x.speak(1), 2);
  }

  /** Of 12 points some were told, then it was interrupted. */
  private static Locihall interruptedBehind(int told) {
    Locihall x = Halls.withSpeeches(12, 12);
    x.speak(0);
    for (int point = 0; point < told; point++) {
      x.point();
    }
    x.interrupt();
    return x;
  }

  private static void moreThanTwoHours() {
    for (int hours : new int[] {0, 1, 2, 3, 4, 999}) {
      Locihall x = interruptedBehind(11);
      if (hours > 0) {
        x.pass(hours);
      }
      int next = hours > 2 ? 10 : 11;
      Due.due("42: behind " + hours + " hours", () -> x.resume(), next);
      Due.due("41: left then", () -> x.interrupt(), 12 - next);
      Due.due("42: at once", () -> x.resume(), next);
      Due.due("40: told then", () -> x.point(), next);
    }
  }

  private static void hoursOfAllKinds() {
    Locihall slept = interruptedBehind(5);
    slept.sleep(2);
    Due.due("42: 2 hours of sleep", () -> slept.resume(), 5);
    slept.interrupt();
    slept.sleep(1);
    slept.pass(2);
    Due.due("42: 1 hour of sleep, and 2", () -> slept.resume(), 4);
    Locihall trained = interruptedBehind(5);
    trained.system(1);
    trained.train(0, 2);
    Due.due("42: 2 hours of training", () -> trained.resume(), 5);
    trained.interrupt();
    trained.train(0, 3);
    Due.due("42: 3 hours of training", () -> trained.resume(), 4);
    trained.pass(9);
    trained.interrupt();
    Due.due("42: hours ahead of it are no hours in it", () -> trained.resume(), 4);
  }

  private static void atLeastNought() {
    for (int told = 0; told <= 2; told++) {
      Locihall x = interruptedBehind(told);
      x.pass(3);
      int next = Math.max(0, told - 1);
      Due.due("42: one ahead of " + told, () -> x.resume(), next);
      Due.due("40: told again", () -> x.point(), next);
    }
  }

  private static void againAndAgain() {
    Locihall x = interruptedBehind(2);
    for (int next : new int[] {1, 0, 0}) {
      x.pass(3);
      Due.due("42: one ahead each time", () -> x.resume(), next);
      x.interrupt();
    }
    x.resume();
    for (int point = 0; point < 12; point++) {
      Due.due("40: all of it", () -> x.point(), point);
    }
    Due.thrown("40: behind the last one", () -> x.point(), Due.NONE);
  }

  private static void theInnermostOne() {
    Locihall x = Halls.withSpeeches(3, 3);
    x.speak(0);
    x.point();
    x.point();
    x.speak(1);
    x.point();
    Due.due("41: left of the innermost one", () -> x.interrupt(), 2);
    x.pass(3);
    Due.due("42: one ahead in the innermost one", () -> x.resume(), 0);
    for (int point = 0; point < 3; point++) {
      Due.due("40: of the innermost one", () -> x.point(), point);
    }
    Due.due("41: left of the outer one", () -> x.interrupt(), 1);
    Due.due("42: the outer one is where it was", () -> x.resume(), 2);
    Due.due("40: its last one", () -> x.point(), 2);
    Due.thrown("40: all ended", () -> x.point(), Due.NONE);
  }

  private static void marksAreNoTraces() {
    Locihall x = Halls.withSpeeches(12);
    for (int at = 0; at < 12; at++) {
      int asked = at;
      Due.due("38: no trace", () -> x.traces(0, asked), 0);
      Due.due("38: nothing recalled", () -> x.recall(0, asked), '-');
    }
    Due.thrown("51: no locus with traces", () -> x.heldShare(), Due.ARITHMETIC);
    Due.due("50: no tenths", () -> x.tenths(), 0L);
  }
}
