import java.lang.reflect.InvocationTargetException;
import java.lang.reflect.Method;
import java.util.ArrayList;
import java.util.HashMap;
import java.util.List;
import java.util.Map;
import java.util.Random;

/**
 * All promises: runs of 512 random calls, answered by the program and by
 * PlainModel. The first difference is told with the calls ahead of it.
 * Arguments: the first run's number and how many runs (0 and 1500 without).
 */
public final class RandomRunsTest {
  private static final int CALLS = 512;
  private static final int TOLD_AHEAD = 60;
  private static final String[] LAWS = {
    "r<1", "r>0", "p>20", "p>22", "p<20", "h>0", "h>9", "k=3", "k=2", "k=3|k=4", "b=1", "m<20",
    "m>40", "c>99", "w>8&w<30", "0=0", "w<6", "!r=0", "p>22&!r>1", "g>50", "h+m>20", "o<5"};
  private static final String SIGNS = "()!&|<>=+-0159pwcogmhkrbx \u0000\u00ff";

  private static final Map<String, Method> PROGRAM = methods(NoSummer.class);
  private static final Map<String, Method> MODEL = methods(PlainModel.class);

  private final Random random;
  private final NoSummer program = new NoSummer();
  private final PlainModel model = new PlainModel();
  private final List<String> calls = new ArrayList<>();
  private final int number;

  private RandomRunsTest(int number) {
    this.number = number;
    this.random = new Random(number * 7919L + 1816);
  }

  public static void main(String[] args) {
    int first = args.length > 0 ? Integer.parseInt(args[0]) : 0;
    int runs = args.length > 1 ? Integer.parseInt(args[1]) : 1500;
    for (int i = first; i < first + runs; i++) {
      new RandomRunsTest(i).runs();
    }
    System.out.println("RandomRunsTest: " + runs + " runs without a difference");
  }

  private static Map<String, Method> methods(Class<?> type) {
    Map<String, Method> all = new HashMap<>();
    for (Method method : type.getMethods()) {
      all.put(method.getName(), method);
    }
    return all;
  }

  // ---- a call, by both

  private static String answer(Method method, Object object, Object[] arguments) {
    try {
      return "" + method.invoke(object, arguments);
    } catch (InvocationTargetException e) {
      return "throws." + e.getCause().getClass().getSimpleName();
    } catch (IllegalAccessException e) {
      return "no method";
    }
  }

  /** Calls both and compares; the answer as a number (0 for an exception). */
  private int call(String name, Object... arguments) {
    if (calls.size() >= CALLS) {
      return 0;
    }
    String got = answer(PROGRAM.get(name), program, arguments);
    String due = answer(MODEL.get(name), model, arguments);
    StringBuilder told = new StringBuilder(name).append('(');
    for (int i = 0; i < arguments.length; i++) {
      told.append(i == 0 ? "" : ", ").append(arguments[i]);
    }
    calls.add(told.append(") ").append(due).toString());
    if (!got.equals(due)) {
      fails(got);
    }
    return due.startsWith("throws") ? 0 : (int) Long.parseLong(due);
  }

  private void fails(String got) {
    int from = Math.max(0, calls.size() - TOLD_AHEAD);
    System.out.println("run " + number + ", call " + calls.size() + ", the last ones:");
    for (String told : calls.subList(from, calls.size())) {
      System.out.println("  " + told);
    }
    System.out.println("answered " + got);
    System.exit(1);
  }

  // ---- random arguments

  private boolean oneIn(int n) {
    return random.nextInt(n) == 0;
  }

  private int from(int least, int most) {
    return least + random.nextInt(Math.max(1, most - least + 1));
  }

  /** Mostly within the bounds, now and then beyond them. */
  private int some(int least, int most) {
    return oneIn(30) ? (oneIn(2) ? least - 1 : most + 1) : from(least, most);
  }

  private int land() {
    return some(0, 3);
  }

  private int purpose() {
    return some(0, 3);
  }

  private int district() {
    return some(0, model.count(0) - 1);
  }

  private int holder() {
    return some(0, model.count(1) - 1);
  }

  private int law() {
    return some(-1, model.count(2) - 1);
  }

  private int shelf() {
    return some(0, 7);
  }

  /** A holder of a kind where a few tries find one. */
  private int holderOf(int kind) {
    for (int i = 0; i < 12 && !oneIn(20); i++) {
      int h = holder();
      if (model.about(h, 0) == kind) {
        return h;
      }
    }
    return holder();
  }

  private String atom() {
    return oneIn(3) ? "" + from(0, oneIn(4) ? 9999 : 60) : "" + "pwcogmhkrb".charAt(from(0, 9));
  }

  private String sum() {
    String sum = atom();
    while (oneIn(4)) {
      sum += (oneIn(2) ? "+" : "-") + atom();
    }
    return sum;
  }

  private String test(int depth) {
    if (oneIn(7)) {
      return "!" + test(depth);
    }
    return depth < 9 && oneIn(5) ? "(" + or(depth + 1) + ")"
        : sum() + "<>=".charAt(from(0, 2)) + sum();
  }

  private String or(int depth) {
    String or = test(depth);
    while (oneIn(3)) {
      or += (oneIn(2) ? "&" : "|") + test(depth);
    }
    return or;
  }

  /** A law's text, now and then with a sign too many, too few or another one. */
  private String text() {
    StringBuilder text = new StringBuilder(oneIn(3) ? or(0) : LAWS[from(0, LAWS.length - 1)]);
    if (oneIn(6)) {
      int at = from(0, text.length() - 1);
      char sign = SIGNS.charAt(from(0, SIGNS.length() - 1));
      switch (from(0, 2)) {
        case 0: text.deleteCharAt(at); break;
        case 1: text.insert(at, sign); break;
        default: text.setCharAt(at, sign); break;
      }
    }
    text.setLength(Math.min(text.length(), 40));
    return text.toString();
  }

  // ---- what a run begins with

  private void runs() {
    boolean trade = oneIn(3);
    boolean fleet = !trade && oneIn(4);
    int districts = oneIn(20) ? 0 : from(1, 10);
    int lands = from(1, 4);
    for (int i = 0; i < districts; i++) {
      call("district", oneIn(30) ? land() : from(0, lands - 1), oneIn(2) ? 0 : some(0, 9));
    }
    for (int i = from(0, 2 * districts); i > 0; i--) {
      call("road", district(), district(), some(0, trade ? 12 : 30));
    }
    for (int i = from(1, oneIn(4) ? 30 : 12); i > 0; i--) {
      settles(trade ? (oneIn(2) ? 2 : 1) : fleet && oneIn(2) ? 4 : some(0, 5), trade);
    }
    for (int i = from(0, 5); i > 0; i--) {
      tellsLaw();
    }
    for (int i = from(0, 3); i > 0; i--) {
      tellsWeather();
    }
    while (calls.size() < CALLS) {
      acts(from(0, 41));
    }
  }

  private void settles(int kind, boolean trade) {
    int h = call("holder", kind, district(), oneIn(6) ? some(0, 999) : from(0, 60));
    for (int what = 0; what < 4; what++) {
      if (oneIn(2) || trade && kind == 2) {
        call("gives", h, what, oneIn(5) ? some(1, 9999) : from(1, what == 3 ? 30 : 900));
      }
    }
    if (kind == 0) {
      call("field", h, oneIn(4) ? some(0, 999) : from(0, 80));
    }
    if (kind >= 4) {
      sets(h, kind);
    }
  }

  private void sets(int h, int kind) {
    call("goal", h, district(), kind == 5 && !oneIn(9) ? 0 : some(0, oneIn(2) ? 30 : 5));
  }

  private void tellsLaw() {
    int d = from(0, 7);
    String text = text();
    call("row", d, 0, text.length());
    for (int i = 0; i < text.length(); i++) {
      call("put", d, i, (int) text.charAt(i));
    }
    call("fault", d);
    int law = call("law", d);
    if (!oneIn(4)) {
      call("force", land(), purpose(), oneIn(3) ? law() : law);
    }
  }

  /** Some elements, then copies of them behind, so that few calls tell many weeks. */
  private void tellsWeather() {
    int d = from(0, 7);
    int sort = from(0, 2);
    int size = oneIn(2) ? 160 : from(1, 160);
    int told = Math.min(size, from(1, 9));
    boolean wet = oneIn(2);
    call("row", d, sort, size);
    for (int i = 0; i < told; i++) {
      int missing = sort == 0 ? -128 : sort == 1 ? -32768 : Integer.MIN_VALUE;
      call("put", d, i, oneIn(5) ? missing : wet ? from(2, 8) : from(3, 19));
    }
    for (int i = told; i < size; i *= 2) {
      call("copy", d, 0, d, i, Math.min(i, size - i));
    }
    call("weather", land(), d, wet);
  }

  // ---- what a run goes on with

  private void acts(int which) {
    switch (which) {
      case 0: if (oneIn(6)) call("district", land(), some(0, 9)); break;
      case 1: call("road", district(), district(), some(0, 30)); break;
      case 2: call("far", district(), district()); break;
      case 3: call("sky", land(), some(0, 156), oneIn(2)); break;
      case 4: call("price", district()); break;
      case 5: if (oneIn(4)) settles(some(0, 5), false); break;
      case 6: call("gives", holder(), some(0, 3), oneIn(2) ? some(1, 9999) : from(1, 300)); break;
      case 7: call("field", oneIn(3) ? holder() : holderOf(0), some(0, 999)); break;
      case 8: sets(oneIn(3) ? holder() : holderOf(4), 4); break;
      case 9: sets(holderOf(5), 5); break;
      case 10: case 11: call("about", holder(), some(0, 15)); break;
      case 12: if (oneIn(3)) tellsLaw(); break;
      case 13: call("force", land(), purpose(), law()); break;
      case 14: call("may", law(), land(), oneIn(3) ? -1 : holder()); break;
      case 15: call("shut", land()); break;
      case 16: case 17: case 18: case 19: goes(); break;
      case 20: call("record", some(0, oneIn(5) ? 156 : model.count(3)), some(0, 12)); break;
      default: actsOn(which); break;
    }
  }

  private void actsOn(int which) {
    switch (which) {
      case 21: call("read", district(), district()); break;
      case 22: call("sends", oneIn(4) ? holder() : holderOf(2)); break;
      case 23: call("cart", some(0, model.count(4)), some(0, 4)); break;
      case 24: call("brings", district(), district(), some(1, 99)); break;
      case 25: call("relief", oneIn(4) ? holder() : holderOf(3), some(1, oneIn(2) ? 9999 : 300)); break;
      case 26: call("coin", district(), some(1, 9999), some(0, 2)); break;
      case 27: call("turn", holderOf(4), district(), some(0, oneIn(2) ? 30 : 5)); break;
      case 28: turns(); break;
      case 29: call("behind", land(), some(1, oneIn(4) ? 30 : 6)); break;
      case 30: call("worst", land(), purpose(), law(), some(1, oneIn(4) ? 30 : 6)); break;
      case 31: call("best", land(), purpose(), some(1, oneIn(4) ? 30 : 6)); break;
      case 32: if (oneIn(3)) call("image"); break;
      case 33: if (oneIn(3)) call("restore"); break;
      case 34: call("count", some(0, 10)); break;
      case 35: call("keep", shelf(), some(0, 1), holder()); break;
      case 36: call("row", shelf(), some(0, 2), some(0, oneIn(3) ? 160 : 4)); break;
      case 37: call("put", shelf(), some(0, 5), oneIn(2) ? random.nextInt() : from(-300, 300)); break;
      case 38: call("element", shelf(), some(0, 5)); break;
      case 39: call("copy", shelf(), some(0, 3), shelf(), some(0, 3), some(0, 3)); break;
      case 40: call("weight", shelf()); call("toss", shelf()); break;
      default: call("weather", land(), shelf(), oneIn(2)); call("fault", shelf()); break;
    }
  }

  private void goes() {
    call("go", oneIn(8) ? some(1, 26) : from(1, 2));
    int what = from(0, 15);
    for (int i = from(0, 8); i > 0; i--) {
      call("about", holder(), oneIn(3) ? from(0, 15) : what);
    }
    call("price", district());
    call("count", from(4, 10));
  }

  private void turns() {
    int d = from(0, 7);
    int size = some(1, 3);
    int word = some(0, oneIn(2) ? 30 : 4);
    call("row", d, oneIn(12) ? 1 : 0, size);
    for (int i = 0; i < size; i++) {
      call("put", d, i, district());
    }
    call("turning", d, word);
    for (int i = 0; i < 4; i++) {
      call("turned", d, word, oneIn(6) ? holder() : holderOf(4));
    }
  }
}
