import java.lang.reflect.Method;
import java.util.ArrayList;
import java.util.HashMap;
import java.util.List;
import java.util.Map;
import java.util.TreeMap;

/**
 * Many runs of 512 calls: each answer is that of the model; only what the document names is thrown; and a
 * twin that never gets the calls that throw answers the same, so those have changed nothing.
 */
public final class RandomRunsTest {
  private static final int RUNS = 4000;
  private static final Map<String, int[]> SEEN = new TreeMap<>();

  public static void main(String[] args) throws Exception {
    int bad = 0;
    for (int seed = 0; seed < RUNS && bad < 5; seed++) {
      bad += run(seed) ? 0 : 1;
    }
    Due.same("runs with a wrong answer", bad, 0);
    checkBreadth();
    if (args.length > 0) {
      SEEN.forEach((name, counts) -> System.out.println(name + " " + java.util.Arrays.toString(counts)));
    }
    Due.end();
  }

  private static boolean run(int seed) throws Exception {
    Locihall hall = new Locihall();
    Locihall twin = new Locihall();
    Model model = new Model();
    Calls calls = new Calls(seed);
    List<Calls.Call> first = calls.setUp();
    int[] drawn = {};
    int given = -1;
    for (int number = 0; number < 512; number++) {
      Calls.Call call = number < first.size() ? first.get(number) : calls.next(drawn, given);
      Object got = Calls.made(hall, call);
      Object want = Calls.made(model, call);
      if (!alike(got, want) || !isNamed(call, got) || !alikeInTwin(twin, call, got)) {
        System.out.println("run " + seed + ", call " + number + ": " + call + " answered " + got + ", due is " + want);
        return false;
      }
      count(call, got);
      if (call.name().equals("contest") && got instanceof Integer) {
        drawn = drawnIn(model);
        given = 0;
      }
      if (call.name().equals("answer") && got instanceof Integer) {
        given = (Integer) got;
      }
    }
    return hall.isConsistent();
  }

  private static int[] drawnIn(Model model) {
    List<Integer> drawn = new ArrayList<>();
    for (int index = 0; index < 36; index++) {
      try {
        drawn.add(model.drawn(index));
      } catch (java.util.NoSuchElementException behindTheLast) {
        break;
      }
    }
    int[] keys = new int[drawn.size()];
    for (int index = 0; index < keys.length; index++) {
      keys[index] = drawn.get(index);
    }
    return keys;
  }

  private static boolean alike(Object got, Object want) {
    if (got instanceof Throwable || want instanceof Throwable) {
      return got != null && want != null && got.getClass() == want.getClass();
    }
    return got.equals(want);
  }

  private static boolean isNamed(Calls.Call call, Object got) {
    if (!(got instanceof Throwable thrown)) {
      return true;
    }
    Method method = Calls.methodOf(Locihall.class, call.name());
    boolean isListed = List.of(method.getExceptionTypes()).contains(thrown.getClass());
    StackTraceElement from = thrown.getStackTrace()[0];
    return isListed && from.getClassName().equals("Locihall") && from.getMethodName().equals(call.name());
  }

  private static boolean alikeInTwin(Locihall twin, Calls.Call call, Object got) throws Exception {
    return got instanceof Throwable || got.equals(Calls.made(twin, call));
  }

  private static void count(Calls.Call call, Object got) {
    boolean isThrown = got instanceof Throwable;
    String answer = call.name().equals("recall") && !isThrown ? "recall " + got : call.name();
    SEEN.computeIfAbsent(answer, name -> new int[2])[isThrown ? 1 : 0]++;
    if (isThrown) {
      SEEN.computeIfAbsent(call.name() + " " + got.getClass().getSimpleName(), name -> new int[2])[1]++;
    }
  }

  /** The runs are worth something only if every call was answered, and threw all that it can. */
  private static void checkBreadth() {
    Map<String, Integer> none = new HashMap<>();
    for (Method method : Locihall.class.getDeclaredMethods()) {
      if (java.lang.reflect.Modifier.isPublic(method.getModifiers())) {
        if (!method.getName().equals("recall") && !SEEN.containsKey(method.getName())) {
          none.put(method.getName(), 0);
        }
        for (Class<?> thrown : method.getExceptionTypes()) {
          if (!SEEN.containsKey(method.getName() + " " + thrown.getSimpleName())) {
            none.put(method.getName() + " " + thrown.getSimpleName(), 0);
          }
        }
      }
    }
    for (char sign : "rgpfi-".toCharArray()) {
      if (!SEEN.containsKey("recall " + sign)) {
        none.put("recall " + sign, 0);
      }
    }
    Due.same("calls and exceptions that never came", none, new HashMap<String, Integer>());
  }
}
