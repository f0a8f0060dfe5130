import java.lang.reflect.InvocationTargetException;
import java.lang.reflect.Method;
import java.util.ArrayDeque;
import java.util.ArrayList;
import java.util.List;
import java.util.Random;

/** Calls drawn by a seed: mostly ordinary ones, with edges and wrong inputs among them. */
final class Calls {
  record Call(String name, Object[] arguments) {
    @Override
    public String toString() {
      return name + java.util.Arrays.toString(arguments);
    }
  }

  private static final int[] WILD = {-1, 0, 1, Integer.MIN_VALUE, Integer.MAX_VALUE, 100, 1000, -100, 65536};
  private final Random random;
  private final int theme;
  private final List<Integer> learnt = new ArrayList<>();
  private final List<List<Integer>> tables = new ArrayList<>();
  private final List<Integer> sizes = new ArrayList<>();
  private final ArrayDeque<Call> queue = new ArrayDeque<>();
  private int systems;
  private int palaces;
  private int loci;

  Calls(long seed) {
    random = new Random(seed);
    theme = random.nextInt(6);
  }

  /** A few calls that make a hall in which most others can be answered. */
  List<Call> setUp() {
    List<Call> calls = new ArrayList<>();
    int images = theme == 4 ? 29 : 3 + random.nextInt(10);
    for (int image = 0; image < images; image++) {
      calls.add(call("image", random.nextInt(theme % 2 == 0 ? 2 : 5), random.nextInt(10)));
    }
    systems = 1 + random.nextInt(3);
    for (int system = 0; system < systems; system++) {
      int size = 1 + random.nextInt(3);
      calls.add(call("system", size));
      sizes.add(size);
      tables.add(new ArrayList<>());
      int keys = theme == 5 ? 3 : 5 + random.nextInt(25);
      for (int count = 0; count < keys; count++) {
        boolean isNew = system == 0 || random.nextInt(4) == 0;
        int key = isNew ? random.nextInt(100) : learnt.get(random.nextInt(learnt.size()));
        learnt.add(key);
        tables.get(system).add(key);
        calls.add(call("learn", system, key, random.nextInt(images)));
      }
    }
    palaces = 1 + random.nextInt(3);
    loci = 12;
    for (int palace = 0; palace < palaces; palace++) {
      calls.add(call("palace"));
      int count = 1 + random.nextInt(theme < 3 ? 4 : 11);
      loci = Math.min(loci, count);
      for (int locus = 0; locus < count; locus++) {
        calls.add(call("locus", palace, 1 + random.nextInt(9)));
      }
    }
    return calls;
  }

  private static Call call(String name, Object... arguments) {
    return new Call(name, arguments);
  }

  private int from(int low, int high) {
    int roll = random.nextInt(60);
    if (roll == 0) {
      return WILD[random.nextInt(WILD.length)];
    }
    if (roll == 1) {
      return low - 1;
    }
    if (roll == 2) {
      return high + 1;
    }
    if (roll == 3) {
      return high;
    }
    return low + random.nextInt(high - low + 1);
  }

  private int key() {
    return random.nextInt(9) == 0 ? from(0, 99) : learnt.get(random.nextInt(learnt.size()));
  }

  private int system() {
    return from(0, systems - 1);
  }

  private int house() {
    return from(0, palaces - 1);
  }

  private int locus() {
    return random.nextInt(5) == 0 ? from(0, 11) : from(0, loci - 1);
  }

  private int tenths() {
    return random.nextInt(4) == 0 ? from(0, 9999) : from(0, 13);
  }

  private int year() {
    return random.nextInt(8) == 0 ? from(0, 9999) : 2000 + random.nextInt(theme == 0 ? 12 : 5);
  }

  private char letter(String letters) {
    return random.nextInt(30) == 0 ? (char) random.nextInt(300) : letters.charAt(random.nextInt(letters.length()));
  }

  private int hours() {
    return random.nextInt(12) == 0 ? from(1, 999) : 1 + random.nextInt(theme == 1 ? 30 : theme == 3 ? 2 : 6);
  }

  /** The next call; a contest tells the keys that it drew, so that by hand right answers come too. */
  Call next(int[] drawn, int given) {
    if (!queue.isEmpty()) {
      return queue.poll();
    }
    int roll = random.nextInt(100);
    if (roll < 22) {
      return recalling();
    }
    if (roll < 44) {
      return laying();
    }
    if (roll < 64) {
      return contending(drawn, given);
    }
    if (roll < 74) {
      return learning();
    }
    if (roll < 82) {
      return speaking();
    }
    if (roll < 94) {
      return reviewing();
    }
    return figuring();
  }

  private Call recalling() {
    int palace = house();
    int at = locus();
    switch (random.nextInt(6)) {
      case 0: return call("hold", palace, at, from(0, 3));
      case 1: case 2: return call("recall", palace, at);
      case 3: return call("recalled", palace, at, from(0, 2));
      case 4: return call("traces", palace, at);
      default: return random.nextInt(2) == 0 ? call("walk", palace) : call("recall", palace, at);
    }
  }

  private Call laying() {
    switch (random.nextInt(12)) {
      case 0: return call("cue", house(), locus(), random.nextBoolean());
      case 1: return random.nextInt(30) == 0 ? call("key", from(0, 99)) : call("lay", house(), locus(), system(), true);
      case 2: case 3: case 4: case 5: return laid();
      case 6: return call("groups", house(), random.nextInt(4) == 0 ? 0 : from(2, 4));
      case 7: return random.nextInt(3) == 0 ? call("wipe", house(), locus()) : call("walk", house());
      case 8: return theme % 2 == 1 ? call("pass", hours()) : laid();
      case 9: return random.nextInt(theme + 1) == 0 ? call("sleep", from(1, 16)) : laid();
      case 10: return random.nextInt(3) == 0 ? call("age", from(0, 120)) : call("pass", 1);
      default: return random.nextInt(6) == 0 ? call("palace") : call("locus", random.nextInt(9) == 0 ? from(0, 3) : house(), from(1, 9));
    }
  }

  private Call laid() {
    int system = random.nextInt(systems);
    int keys = 1 + random.nextInt(sizes.get(system));
    List<Integer> table = tables.get(system);
    for (int count = 0; count < keys; count++) {
      queue.add(call("key", random.nextInt(200) == 0 ? from(-1, 100) : table.get(random.nextInt(table.size()))));
    }
    queue.add(call("lay", random.nextInt(palaces), random.nextInt(loci), system, random.nextInt(5) == 0));
    return queue.poll();
  }

  private Call contending(int[] drawn, int given) {
    switch (random.nextInt(14)) {
      case 0: return call("book", year(), from(1, 20), letter("hzf"));
      case 1: return call("standard", year(), from(1, 999));
      case 2: case 3:
        return call("contest", year(), random.nextInt(9) == 0 ? from(0, 1000) : random.nextInt(Integer.MAX_VALUE), house(), system(), random.nextInt(4) == 0 ? from(1, 36) : from(1, 6));
      case 4: return call("drawn", from(0, 12));
      case 5: case 6: case 7: return answering(drawn, given);
      case 8: return call("answerAll", tenths());
      case 9: return call("appeal", random.nextInt(3) == 0 ? from(0, 12) : given - 1);
      case 10: return call("close");
      case 11: return call("points");
      case 12: return call("record", year());
      default: return call("isSuspect");
    }
  }

  private Call answering(int[] drawn, int given) {
    if (given < 0 || given >= drawn.length || random.nextInt(6) == 0) {
      return call("answer", from(-1, 99), tenths());
    }
    int key = drawn[given];
    int roll = random.nextInt(6);
    return call("answer", roll == 0 ? -1 : roll <= 2 ? key % 10 * 10 + key / 10 : key, tenths());
  }

  private Call learning() {
    switch (random.nextInt(11)) {
      case 0: return call("image", from(0, 4), from(0, 9));
      case 1: return call("system", from(1, 3));
      case 2: return call("learn", system(), key(), from(0, 5));
      case 3: return call("imageOf", system(), key());
      case 4: return call("skill", system(), key());
      case 5: case 6: return call("tongue", from(0, 2), from(0, 9), letter(theme == 0 ? "az" : "abcdefgz"));
      case 7: return call("takeOver", system(), system(), from(0, 2), from(0, 2));
      case 8: return call("train", system(), random.nextInt(5) == 0 ? from(1, 200) : from(1, 9));
      case 9: return call("saved", system(), from(1, 200), from(1, 9999));
      default: return call("paysBack", system(), system(), random.nextInt(2) == 0 ? from(0, 9) : from(0, 200));
    }
  }

  private Call speaking() {
    switch (random.nextInt(7)) {
      case 0: return call("speech", house(), from(1, 6));
      case 1: case 2: return call("speak", from(0, 3));
      case 3: case 4: return call("point");
      case 5: return call("interrupt");
      default: return call("resume");
    }
  }

  private Call reviewing() {
    switch (random.nextInt(10)) {
      case 0: return random.nextInt(theme < 3 ? 4 : 1) == 0 ? call("fact", from(1, 5)) : call("pass", hours());
      case 1: return theme == 5 ? call("fact", from(1, 5)) : call("review", from(0, 3));
      case 2: case 3: return call("review", from(0, theme == 5 ? 11 : 3));
      case 4: return call("strength", from(0, 3));
      case 5: return call("isDue", from(0, 3));
      case 6: return call("leeches");
      case 7: return call("bestSum", from(1, 5));
      case 8: return call("bestAt", from(1, 5), from(0, 3));
      default: return call("bestAt", 5, from(0, 4));
    }
  }

  private Call figuring() {
    switch (random.nextInt(4)) {
      case 0: return call("tenths");
      case 1: return call("heldShare");
      case 2: return call("meanHold");
      default: return call("isConsistent");
    }
  }

  static Method methodOf(Class<?> type, String name) {
    for (Method method : type.getDeclaredMethods()) {
      if (method.getName().equals(name) && java.lang.reflect.Modifier.isPublic(method.getModifiers())) {
        return method;
      }
    }
    throw new IllegalStateException(name);
  }

  /** The answer, or what is thrown. */
  static Object made(Object hall, Call call) throws IllegalAccessException {
    try {
      return methodOf(hall.getClass(), call.name()).invoke(hall, call.arguments());
    } catch (InvocationTargetException thrown) {
      return thrown.getCause();
    }
  }
}
