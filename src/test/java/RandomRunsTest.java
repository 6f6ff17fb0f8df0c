import java.lang.reflect.InvocationTargetException;
import java.lang.reflect.Method;
import java.util.ArrayList;
import java.util.Comparator;
import java.util.HashMap;
import java.util.List;
import java.util.Map;
import java.util.Random;

/** Calls by lot on new objects, each answer against that of PlainHall. */
public final class RandomRunsTest {
  private static final int RUNS = 700, CALLS = 512;
  private static final int NONE = HallCoughs.NONE;
  private static final String[] NAMES = {"adi", "nl", "ch"};
  private static final String[] KEYS = {"itch", "harm", "fine"};

  private static final Map<String, int[]> BOUNDS = bounds();

  private final Map<String, Method> calls = new HashMap<>();
  private final Map<String, Method> plainCalls = new HashMap<>();
  private final List<String> names = new ArrayList<>();
  private final Map<String, Integer> sound = new HashMap<>();
  private Random lot = new Random(0);
  private HallCoughs x;
  private PlainHall plain;
  private List<String> log = new ArrayList<>();
  private int left;

  public static void main(String[] args) throws Exception {
    long from = args.length > 0 ? Long.parseLong(args[0]) : 1;
    int runs = args.length > 1 ? Integer.parseInt(args[1]) : RUNS;
    RandomRunsTest test = new RandomRunsTest();
    boolean right = true;
    for (long run = from; run < from + runs && right; run++) {
      right = test.oneRun(run);
    }
    if (args.length > 2) {
      System.out.println(test.sound);
    }
    right = test.everyCallAnswered() && right;
    System.out.println(right ? "all answers are as PlainHall's" : "an answer is not as PlainHall's");
    if (!right) {
      System.exit(1);
    }
  }

  private RandomRunsTest() throws NoSuchMethodException {
    for (Method m : HallCoughs.class.getDeclaredMethods()) {
      if (java.lang.reflect.Modifier.isPublic(m.getModifiers())) {
        calls.put(m.getName(), m);
        plainCalls.put(m.getName(), PlainHall.class.getMethod(m.getName(), m.getParameterTypes()));
        names.add(m.getName());
      }
    }
    names.sort(Comparator.naturalOrder());
  }

  /** A test by lot is worth nothing for a call that it never brings to an answer of its own. */
  private boolean everyCallAnswered() {
    boolean all = true;
    for (String name : names) {
      if (sound.getOrDefault(name, 0) < 100) {
        System.out.println(name + " was hardly ever answered");
        all = false;
      }
    }
    return all;
  }

  private boolean oneRun(long run) throws IllegalAccessException, InvocationTargetException {
    lot = new Random(run);
    x = new HallCoughs();
    plain = new PlainHall();
    log = new ArrayList<>();
    left = CALLS;
    boolean late = run % 50 == 0;
    while (left > 0) {
      if (!(late && left > 14 ? call("run", 200) : someCalls())) {
        System.out.println("run " + run + ", from its last calls:");
        log.subList(Math.max(0, log.size() - 60), log.size()).forEach(System.out::println);
        return false;
      }
    }
    return true;
  }

  private boolean call(String name, Integer... args) throws IllegalAccessException, InvocationTargetException {
    if (left <= 0) {
      return true; // what calls beyond the 512th answer is free
    }
    left--;
    Object[] all = args;
    int got = (Integer) calls.get(name).invoke(x, all);
    int want = (Integer) plainCalls.get(name).invoke(plain, all);
    log.add(name + List.of(args) + " answered " + got + (got == want ? "" : ", PlainHall " + want));
    String answer = name + (got > -1000000000 || name.equals("seed") ? "" : " " + got);
    sound.merge(answer, 1, Integer::sum);
    return got == want;
  }

  private boolean someCalls() throws IllegalAccessException, InvocationTargetException {
    switch (lot.nextInt(30)) {
      case 0: return tellText();
      case 1: return lot.nextInt(3) > 0 || tellSeconds();
      case 2: return lot.nextInt(4) > 0 || call("deal", 1 + lot.nextInt(4));
      case 3: return call("set", lot.nextInt(10), 3, lot.nextInt(260));
      case 4: return call("loud", lot.nextInt(8), lot.nextBoolean() ? lot.nextInt(100) : 0);
      case 5: return call("mark", lot.nextInt(4), lot.nextInt(24), valueOfSheet());
      case 6: return call("sheet", lot.nextInt(4), lot.nextInt(2), lot.nextInt(25));
      case 7: case 8: return call("run", 1 + lot.nextInt(4));
      case 9: return call("lay", lot.nextInt(5), 1 + lot.nextInt(3), lot.nextInt(4));
      case 10: return layAndAsk();
      case 11: return call("copy", lot.nextInt(4), lot.nextInt(8), lot.nextInt(4), lot.nextInt(8), lot.nextInt(12));
      case 12: case 13: return anyCall(false);
      case 14: return lot.nextInt(30) > 0 || tooMany();
      default: return anyCall(true);
    }
  }

  private boolean layAndAsk() throws IllegalAccessException, InvocationTargetException {
    int slot = lot.nextInt(5);
    return call("ask", slot, lot.nextInt(6)) && call("item", slot, lot.nextInt(20))
        && call("remains", slot, lot.nextInt(20) - 10) && call("reads", lot.nextInt(4));
  }

  /** One sort of things until there is no room. */
  private boolean tooMany() throws IllegalAccessException, InvocationTargetException {
    int sort = lot.nextInt(3);
    boolean right = true;
    for (int k = 0; k < (sort == 0 ? 62 : sort == 1 ? 9 : 24) && right; k++) {
      right = sort == 0 ? call("tell", k % 3) : sort == 1 ? call("feed", k, k, k) : tellText();
    }
    return right && call("count", 7 + sort);
  }

  /** Some call, with arguments that are mostly of the document's, or any. */
  private boolean anyCall(boolean sane) throws IllegalAccessException, InvocationTargetException {
    String name = names.get(lot.nextInt(names.size()));
    Integer[] args = new Integer[calls.get(name).getParameterCount()];
    int[] bounds = BOUNDS.get(name);
    for (int k = 0; k < args.length; k++) {
      args[k] = sane && lot.nextInt(12) > 0 ? lot.nextInt(bounds[k] + 1) : someNumber();
    }
    return call(name, args);
  }

  /** The greatest that each argument of a call may be, or so. */
  private static Map<String, int[]> bounds() {
    Map<String, int[]> all = new HashMap<>();
    String rows = "person 5 29 99,told 6 8,as 6 5,turns 6 5,set 6 4 99,move 6 29,onSeat 29,deal 10,seed 99999,hall 1 9,bars 24,"
        + "loud 8 99,music 99,run 200,did,behind 200 2,first,rest 60,change 40,sweet 60,setOff 6 6 200,loudest,toldBy 3 6 1,"
        + "fine 6,feed 9 9 9,trim 40,text,textTold 6 1,why 2,sheet 3 1 24,mark 3 12 99,pour 3,reads 3,copy 3 6 3 6 9,"
        + "lay 4 3 3,ask 4 5,item 4 12,remains 4 9,tell 99,check 30,keep,back,count 10";
    for (String row : rows.split(",")) {
      String[] words = row.split(" ");
      all.put(words[0], java.util.Arrays.stream(words).skip(1).mapToInt(Integer::parseInt).toArray());
    }
    return all;
  }

  private int someNumber() {
    int[] edges = {-1, 0, 1, 2, 3, 5, 6, 9, 10, 11, 14, 23, 24, 25, 29, 30, 31, 40, 41, 60, 61, 99, 100, 200, 201, 999, 1000,
        99999, 100000, -99999, -100000, 32767, 32768, 65536, NONE, Integer.MAX_VALUE, Integer.MIN_VALUE, HallCoughs.BAD};
    int sort = lot.nextInt(100);
    if (sort < 70) {
      return lot.nextInt(sort % 2 == 0 ? 5 : 12);
    }
    return sort < 85 ? lot.nextInt(110) : sort < 99 ? edges[lot.nextInt(edges.length)] : lot.nextInt();
  }

  private int valueOfSheet() {
    int sort = lot.nextInt(8);
    return sort < 3 ? 0 : sort == 3 ? NONE : sort == 4 ? lot.nextInt(200000) - 100000 : lot.nextInt(130) - 10;
  }

  private boolean tellText() throws IllegalAccessException, InvocationTargetException {
    int key = lot.nextInt(3);
    String law = (lot.nextInt(9) == 0 ? " " : "") + KEYS[key] + (lot.nextInt(40) == 0 ? "" : " ") + expression(key, 1 + lot.nextInt(4));
    if (lot.nextInt(3) == 0) {
      law = spoilt(law);
    }
    if (lot.nextInt(12) == 0) {
      String deep = "";
      for (int k = 6 + lot.nextInt(14); k > 0; k--) {
        deep += "!(".charAt(lot.nextInt(2));
      }
      law = KEYS[key] + deep + "7" + ")".repeat((int) deep.chars().filter(c -> c == '(').count());
    }
    law = law.substring(0, Math.min(96, law.length()));
    boolean right = true;
    for (int k = 0; k < law.length() && right; k += 12) {
      right = call("feed", Due.four(law, k), Due.four(law, k + 4), Due.four(law, k + 8));
    }
    log.add(law);
    return right && call("trim", law.length()) && call("text") && call("fine", lot.nextInt(3)) && call("told", lot.nextInt(3), 6);
  }

  private String expression(int key, int depth) {
    String blank = lot.nextInt(5) == 0 ? " " : "";
    if (depth == 0 || lot.nextInt(6) == 0) {
      return blank + (lot.nextInt(5) < 2 ? "" + lot.nextInt(lot.nextInt(4) == 0 ? 10000 : 12)
          : "" + NAMES[key].charAt(lot.nextInt(NAMES[key].length()))) + blank;
    }
    switch (lot.nextInt(8)) {
      case 0: return "!" + blank + expression(key, 0);
      case 1: return "!(" + expression(key, depth - 1) + ")";
      case 2: return "(" + expression(key, depth - 1) + ")" + blank;
      default: return expression(key, depth - 1) + "+-*/<=>&|+-*".charAt(lot.nextInt(12)) + expression(key, depth - 1);
    }
  }

  private String spoilt(String law) {
    int at = lot.nextInt(law.length() + 1);
    String signs = "adinlch019 ()!+-*/<=>&|zA\t" + (char) 0 + (char) 200;
    String more = "" + signs.charAt(lot.nextInt(signs.length()));
    switch (lot.nextInt(3)) {
      case 0: return law.substring(0, at);
      case 1: return law.substring(0, at) + more + law.substring(at);
      default: return law.substring(0, at) + more + law.substring(Math.min(law.length(), at + 1));
    }
  }

  /** The right numbers, told in full, too few, too many, or one otherwise. */
  private boolean tellSeconds() throws IllegalAccessException, InvocationTargetException {
    int n = 1 + lot.nextInt(5);
    if (!call("check", 1) || !call("keep")) {
      return false;
    }
    List<Integer> told = new ArrayList<>();
    int harm = plain.count(4);
    for (int k = 0; k < n; k++) {
      if (plain.count(2) == 99999) {
        break;
      }
      if (!call("run", 1)) {
        return false;
      }
      int coughs = Integer.bitCount(plain.did());
      told.add(coughs);
      told.add(plain.count(4));
    }
    if (lot.nextInt(4) == 0 && !told.isEmpty()) {
      told.set(lot.nextInt(told.size()), harm + 7);
    }
    if (lot.nextInt(4) == 0) {
      told.add(lot.nextInt(3));
    }
    if (lot.nextInt(4) == 0 && !told.isEmpty()) {
      told.remove(told.size() - 1);
    }
    for (int v : told) {
      if (!call("tell", v)) {
        return false;
      }
    }
    if (lot.nextInt(3) == 0 && !tellText()) {
      return false;
    }
    return call("check", n) && (lot.nextInt(3) > 0 || call("back"));
  }
}
