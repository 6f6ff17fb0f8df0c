import java.util.ArrayList;
import java.util.HashMap;
import java.util.List;
import java.util.Map;
import java.util.function.IntUnaryOperator;
import java.util.function.ToIntFunction;
import java.util.stream.IntStream;

/**
 * A second telling of the document, for tests alone, and in another way than HallCoughs: halls that are copied whole,
 * kinds that are classes under one another, laws that are trees, rows that are Java's own short[] and float[].
 */
public final class PlainHall {
  static final int BAD = -1000000001, NO = -1000000002, FULL = -1000000003, NONE = -1000000005,
      NOTHING = -1000000011, KIND = -1000000012, INDEX = -1000000013, SIZE = -1000000014;

  /** A refusal that is found on the way. */
  static final class Refusal extends RuntimeException {
    private static final long serialVersionUID = 1L;
    final int answer;

    Refusal(int answer) {
      super(null, null, false, false);
      this.answer = answer;
    }
  }

  static void refuse(boolean when, int answer) {
    if (when) {
      throw new Refusal(answer);
    }
  }

  // ---- kinds

  static class Cougher {
    boolean letsGo(World w, One o) { return o.itch >= 100; }
    int worth(One o) { return o.age; }
  }

  static class Keeper extends Cougher {
    @Override boolean letsGo(World w, One o) { return super.letsGo(w, o) && (w.loudNow() == 0 || o.itch >= 200); }
    @Override int worth(One o) { return super.worth(o) + 4; }
  }

  static class Follower extends Keeper {
    @Override boolean letsGo(World w, One o) {
      boolean near = w.people.stream().anyMatch(q -> q != o && q.did && Math.abs(q.seat - o.seat) <= w.near);
      return super.letsGo(w, o) || o.itch >= 50 && near;
    }
    @Override int worth(One o) { return 2 * super.worth(o); }
  }

  static class Covered extends Cougher {
    @Override boolean letsGo(World w, One o) { return super.letsGo(w, o) && (w.loudNow() >= 50 || o.itch >= 200); }
    @Override int worth(One o) { return 100 - o.age; }
  }

  static class Bored extends Covered {
    @Override boolean letsGo(World w, One o) {
      return super.letsGo(w, o) || w.second % 60 == o.age % 60 && o.itch > 0;
    }
    @Override int worth(One o) { return super.worth(o) - 6; }
  }

  static class Sign extends Cougher {
    @Override boolean letsGo(World w, One o) { return w.second % 30 == o.seat; }
    @Override int worth(One o) { return o.seat; }
  }

  static final List<Cougher> KINDS =
      List.of(new Cougher(), new Keeper(), new Covered(), new Follower(), new Bored(), new Sign());

  // ---- the world

  static final class One implements Cloneable {
    int kind, seat, age, itch, sweet, coughs;
    boolean did;

    Cougher itsKind() { return KINDS.get(kind); }

    boolean under(int k) { return KINDS.get(k).getClass().isInstance(itsKind()); }

    One twin() {
      One t = new One();
      t.kind = kind; t.seat = seat; t.age = age; t.itch = itch; t.sweet = sweet; t.coughs = coughs; t.did = did;
      return t;
    }
  }

  static final class World {
    final List<One> people = new ArrayList<>();
    final List<Integer> bars = new ArrayList<>(List.of(0, 0, 0, 0));
    final List<Law> laws = new ArrayList<>();
    int dry = 30, near = 3, second = 0, harm = 0, z = 1;

    World twin() {
      World t = new World();
      people.forEach(o -> t.people.add(o.twin()));
      t.bars.clear();
      t.bars.addAll(bars);
      t.laws.addAll(laws);
      t.dry = dry; t.near = near; t.second = second; t.harm = harm; t.z = z;
      return t;
    }

    int loudIn(int t) { return bars.get((second + t) % bars.size()); }

    int loudNow() { return loudIn(0); }

    int why(String key) {
      for (int k = laws.size() - 1; k >= 0; k--) {
        if (laws.get(k).key.equals(key)) {
          return k;
        }
      }
      return NONE;
    }

    int law(String key, Map<String, Integer> names, int without) {
      int k = why(key);
      return k == NONE ? without : laws.get(k).tree.give(names);
    }

    int grows(One o) {
      if (o.sweet > 0) {
        return 0;
      }
      int v = law("itch", Map.of("a", o.age, "d", dry, "i", o.itch), 1 + o.age / 20 + dry / 10);
      return v < 0 ? 0 : v > 99 ? 99 : v;
    }

    int pass() {
      for (One o : people) {
        int more = grows(o);
        o.itch = o.itch + more > 999 ? 999 : o.itch + more;
        o.sweet = o.sweet == 0 ? 0 : o.sweet - 1;
      }
      List<One> them = people.stream().filter(o -> o.itsKind().letsGo(this, o)).toList();
      for (One o : people) {
        o.did = them.contains(o);
      }
      for (One o : them) {
        o.itch = 0;
        o.coughs++;
      }
      if (!them.isEmpty()) {
        int l = loudNow();
        int v = law("harm", Map.of("n", them.size(), "l", l), them.size() * (l < 60 ? 60 - l : 0));
        harm += v < 0 ? 0 : v > 9999 ? 9999 : v;
      }
      second++;
      return them.size();
    }

    World behind(int n) {
      World t = twin();
      for (int k = 0; k < n; k++) {
        t.pass();
      }
      return t;
    }

    int coughs() { return people.stream().mapToInt(o -> o.coughs).sum(); }

    int draw() {
      z = z * 1103515245 + 12345;
      return z >>> 8;
    }

    int onSeat(int seat) {
      return IntStream.range(0, people.size()).filter(k -> people.get(k).seat == seat).findFirst().orElse(NONE);
    }

    int comes(int kind, int seat, int age) {
      One o = new One();
      o.kind = kind; o.seat = seat; o.age = age;
      people.add(o);
      return people.size() - 1;
    }
  }

  // ---- laws

  interface Tree { int give(Map<String, Integer> names); }

  record Law(String key, Tree tree, int leaves) { }

  record Token(String text, int at, boolean glued) {
    boolean word() { return !text.isEmpty() && text.matches("[a-z]+|[0-9]+"); }
  }

  static final class FaultAt extends RuntimeException {
    private static final long serialVersionUID = 1L;
    final int at;

    FaultAt(int at) {
      super(null, null, false, false);
      this.at = at;
    }
  }

  static final class LawReader {
    final List<Token> tokens = new ArrayList<>();
    int next = 0, leaves = 0, parens = 0, nots = 0;
    String names = "";

    LawReader(String tape) {
      java.util.regex.Matcher m = java.util.regex.Pattern.compile("[a-z]+|[0-9]+|[^ ]", java.util.regex.Pattern.DOTALL)
          .matcher(tape);
      int last = -1;
      boolean lastWord = false;
      while (m.find()) {
        Token t = new Token(m.group(), m.start(), lastWord && last == m.start());
        tokens.add(t);
        last = m.end();
        lastWord = t.word();
      }
      tokens.add(new Token("", tape.length(), false));
    }

    Token at() { return tokens.get(next); }

    boolean is(String signs) { return at().text.length() == 1 && signs.contains(at().text); }

    String take() {
      Token t = at();
      if (t.glued && t.word()) {
        throw new FaultAt(t.at);
      }
      next++;
      return t.text;
    }

    FaultAt fault() { return new FaultAt(at().at); }

    Law law() {
      switch (at().text) {
        case "itch": names = "adi"; break;
        case "harm": names = "nl"; break;
        case "fine": names = "ch"; break;
        default: throw fault();
      }
      String key = take();
      Tree tree = or();
      if (!at().text.isEmpty()) {
        throw fault();
      }
      return new Law(key, tree, leaves);
    }

    Tree or() {
      Tree t = and();
      while (is("|")) {
        take();
        Tree a = t, b = and();
        t = n -> a.give(n) != 0 | b.give(n) != 0 ? 1 : 0;
      }
      return t;
    }

    Tree and() {
      Tree t = test();
      while (is("&")) {
        take();
        Tree a = t, b = test();
        t = n -> a.give(n) != 0 & b.give(n) != 0 ? 1 : 0;
      }
      return t;
    }

    Tree test() {
      Tree a = sum();
      if (!is("<=>")) {
        return a;
      }
      String s = take();
      Tree b = sum();
      return n -> {
        int c = Integer.compare(a.give(n), b.give(n));
        return (s.equals("<") ? c < 0 : s.equals("=") ? c == 0 : c > 0) ? 1 : 0;
      };
    }

    Tree sum() {
      Tree t = term();
      while (is("+-")) {
        boolean plus = take().equals("+");
        Tree a = t, b = term();
        t = n -> plus ? a.give(n) + b.give(n) : a.give(n) - b.give(n);
      }
      return t;
    }

    Tree term() {
      Tree t = piece();
      while (is("*/")) {
        boolean times = take().equals("*");
        Tree a = t, b = piece();
        t = n -> {
          int x = a.give(n), y = b.give(n);
          return times ? x * y : y == 0 ? 0 : x / y;
        };
      }
      return t;
    }

    Tree piece() {
      Token t = at();
      if (t.text.matches("[0-9]{1,4}")) {
        take();
        leaves++;
        int v = Integer.parseInt(t.text);
        return n -> v;
      }
      if (t.word() && t.text.length() == 1 && names.contains(t.text)) {
        take();
        leaves++;
        return n -> n.get(t.text);
      }
      if (is("!") && nots < 8) {
        take();
        nots++;
        Tree a = piece();
        nots--;
        return n -> a.give(n) == 0 ? 1 : 0;
      }
      if (is("(") && parens < 8) {
        take();
        parens++;
        Tree a = or();
        parens--;
        if (!is(")")) {
          throw fault();
        }
        take();
        return a;
      }
      throw fault();
    }
  }

  // ---- the object

  private World now = new World();
  private World image = null;
  private String tape = "";
  private final List<Integer> waiting = new ArrayList<>();
  private final Map<Integer, Object> sheets = new HashMap<>();
  private final Map<Integer, Object> slots = new HashMap<>();

  private interface Act { int answer(); }

  private static int of(Act act) {
    try {
      return act.answer();
    } catch (Refusal r) {
      return r.answer;
    }
  }

  private One one(int p) {
    refuse(p < 0 || p >= now.people.size(), BAD);
    return now.people.get(p);
  }

  private static void in(int v, int from, int to) { refuse(v < from || v > to, BAD); }

  public int person(int kind, int seat, int age) {
    return of(() -> {
      in(kind, 0, 5);
      in(seat, 0, 29);
      in(age, 0, 99);
      refuse(now.onSeat(seat) != NONE, NO);
      refuse(now.people.size() == 10, FULL);
      return now.comes(kind, seat, age);
    });
  }

  public int told(int person, int what) {
    return of(() -> {
      in(what, 0, 8);
      One o = one(person);
      int[] row = {o.kind, o.seat, o.age, o.itch, o.sweet, o.coughs, now.grows(o),
          o.itsKind().letsGo(now, o) ? 1 : 0, o.itsKind().worth(o)};
      return row[what];
    });
  }

  public int as(int person, int kind) {
    return of(() -> {
      in(kind, 0, 5);
      One o = one(person);
      refuse(!o.under(kind), KIND);
      return o.age;
    });
  }

  public int turns(int person, int kind) {
    return of(() -> {
      in(kind, 0, 5);
      int was = one(person).kind;
      one(person).kind = kind;
      return was;
    });
  }

  public int set(int person, int what, int v) {
    return of(() -> {
      in(what, 2, 4);
      in(v, 0, what == 3 ? 999 : 99);
      int was = told(person, what);
      One o = one(person);
      if (what == 2) { o.age = v; }
      if (what == 3) { o.itch = v; }
      if (what == 4) { o.sweet = v; }
      return was;
    });
  }

  public int move(int person, int seat) {
    return of(() -> {
      in(seat, 0, 29);
      int was = one(person).seat;
      int who = now.onSeat(seat);
      refuse(who != NONE && who != person, NO);
      one(person).seat = seat;
      return was;
    });
  }

  public int onSeat(int seat) {
    return of(() -> {
      in(seat, 0, 29);
      return now.onSeat(seat);
    });
  }

  public int deal(int n) {
    return of(() -> {
      in(n, 1, 10);
      int came = 0;
      while (came < n && now.people.size() < 10) {
        int kind = now.draw() % 6, age = now.draw() % 100, seat = now.draw() % 30;
        while (now.onSeat(seat) != NONE) {
          seat = seat == 29 ? 0 : seat + 1;
        }
        now.comes(kind, seat, age);
        came++;
      }
      return came;
    });
  }

  public int seed(int v) {
    int was = now.z;
    now.z = v;
    return was;
  }

  public int hall(int what, int v) {
    return of(() -> {
      in(what, 0, 1);
      in(v, 0, what == 0 ? 99 : 9);
      int was = what == 0 ? now.dry : now.near;
      if (what == 0) { now.dry = v; } else { now.near = v; }
      return was;
    });
  }

  public int bars(int n) {
    return of(() -> {
      in(n, 1, 24);
      int were = now.bars.size();
      while (now.bars.size() > n) { now.bars.remove(now.bars.size() - 1); }
      while (now.bars.size() < n) { now.bars.add(0); }
      return were;
    });
  }

  public int loud(int bar, int v) {
    return of(() -> {
      in(bar, 0, now.bars.size() - 1);
      in(v, 0, 99);
      return now.bars.set(bar, v);
    });
  }

  public int music(int t) {
    return of(() -> {
      in(t, 0, 99);
      return now.loudIn(t);
    });
  }

  public int run(int n) {
    return of(() -> {
      in(n, 1, 200);
      int coughs = 0;
      for (int k = 0; k < n && now.second < 99999; k++) {
        coughs += now.pass();
      }
      return coughs;
    });
  }

  public int did() {
    int bits = 0;
    for (int k = 0; k < now.people.size(); k++) {
      bits += now.people.get(k).did ? 1 << k : 0;
    }
    return bits;
  }

  public int behind(int n, int what) {
    return of(() -> {
      in(n, 0, 200);
      in(what, 0, 2);
      World t = now.behind(n);
      return what == 0 ? t.coughs() : what == 1 ? t.harm : t.people.stream().mapToInt(o -> o.itch).max().orElse(0);
    });
  }

  public int first() {
    World t = now.twin();
    return IntStream.rangeClosed(1, 200).filter(k -> t.pass() > 0).findFirst().orElse(NONE);
  }

  /** Of 0 .. many - 1 the first for which a number is least. */
  private static int least(int many, IntUnaryOperator number) {
    int best = NONE;
    int least = 0;
    for (int k = 0; k < many; k++) {
      int v = number.applyAsInt(k);
      if (best == NONE || v < least) {
        best = k;
        least = v;
      }
    }
    return best;
  }

  private int imagined(java.util.function.Consumer<World> otherwise, int n, ToIntFunction<World> number) {
    World t = now.twin();
    otherwise.accept(t);
    return number.applyAsInt(t.behind(n));
  }

  public int rest(int n) {
    return of(() -> {
      in(n, 1, 60);
      return least(now.bars.size(), b -> imagined(t -> t.bars.set(b, 0), n, t -> t.harm));
    });
  }

  public int change(int n) {
    return of(() -> {
      in(n, 1, 40);
      List<int[]> pairs = new ArrayList<>();
      for (int p = 0; p < now.people.size(); p++) {
        for (int q = p + 1; q < now.people.size(); q++) {
          pairs.add(new int[] {p, q});
        }
      }
      int best = least(pairs.size(), k -> imagined(t -> {
        One p = t.people.get(pairs.get(k)[0]), q = t.people.get(pairs.get(k)[1]);
        int s = p.seat;
        p.seat = q.seat;
        q.seat = s;
      }, n, World::coughs));
      return best == NONE ? NONE : 100 * pairs.get(best)[0] + pairs.get(best)[1];
    });
  }

  public int sweet(int n) {
    return of(() -> {
      in(n, 1, 60);
      return least(now.people.size(), p -> imagined(t -> t.people.get(p).sweet = 40, n, t -> t.harm));
    });
  }

  public int setOff(int p, int q, int n) {
    return of(() -> {
      in(n, 1, 200);
      one(p);
      one(q);
      refuse(p == q, BAD);
      List<World> row = new ArrayList<>(List.of(now));
      for (int k = 0; k < n; k++) {
        row.add(row.get(k).behind(1));
      }
      return (int) IntStream.rangeClosed(1, n)
          .filter(k -> row.get(k).people.get(p).did && row.get(k - 1).people.get(q).did).count();
    });
  }

  public int loudest() { return least(now.people.size(), p -> -now.people.get(p).coughs); }

  private Object row(int sheet) {
    in(sheet, 0, 3);
    refuse(sheets.get(sheet) == null, NOTHING);
    return sheets.get(sheet);
  }

  /** The numbers of a row, null where there is none. */
  private static List<Integer> numbers(Object row) {
    List<Integer> all = new ArrayList<>();
    if (row instanceof short[] shorts) {
      for (short v : shorts) { all.add((int) v); }
    } else {
      for (float v : (float[]) row) { all.add(Float.isNaN(v) ? null : (Integer) (int) v); }
    }
    return all;
  }

  public int toldBy(int sheet, int p, int what) {
    return of(() -> {
      in(sheet, 0, 3);
      in(what, 0, 1);
      one(p);
      List<Integer> row = numbers(row(sheet));
      IntUnaryOperator others = kind -> {
        World t = now.twin();
        t.people.get(p).kind = kind;
        int many = 0;
        for (Integer v : row) {
          t.pass();
          many += v != null && (v == 0) == t.people.get(p).did ? 1 : 0;
        }
        return many;
      };
      int best = least(6, others);
      return what == 0 ? best : others.applyAsInt(best);
    });
  }

  public int fine(int person) {
    return of(() -> now.law("fine", Map.of("c", one(person).coughs, "h", now.harm), one(person).coughs));
  }

  public int feed(int a, int b, int c) {
    if (tape.length() > 84) {
      return FULL;
    }
    for (int v : new int[] {a, b, c}) {
      tape += "" + (char) (v >>> 24) + (char) (v >>> 16 & 255) + (char) (v >>> 8 & 255) + (char) (v & 255);
    }
    return tape.length();
  }

  public int trim(int n) {
    return of(() -> {
      in(n, 0, tape.length());
      tape = tape.substring(0, n);
      return n;
    });
  }

  public int text() {
    String read = tape;
    tape = "";
    try {
      Law law = new LawReader(read).law();
      if (now.laws.size() == 14) {
        return FULL;
      }
      now.laws.add(law);
      return now.laws.size() - 1;
    } catch (FaultAt f) {
      return -100 - f.at;
    }
  }

  private static final List<String> KEYS = List.of("itch", "harm", "fine");

  public int textTold(int text, int what) {
    return of(() -> {
      in(text, 0, now.laws.size() - 1);
      in(what, 0, 1);
      return what == 0 ? KEYS.indexOf(now.laws.get(text).key) : now.laws.get(text).leaves;
    });
  }

  public int why(int key) {
    return of(() -> {
      in(key, 0, 2);
      return now.why(KEYS.get(key));
    });
  }

  public int sheet(int sheet, int sort, int n) {
    return of(() -> {
      in(sheet, 0, 3);
      in(sort, -1, 1);
      if (sort == -1) {
        sheets.remove(sheet);
        return 0;
      }
      refuse(n > 24, BAD);
      refuse(n < 0, SIZE);
      sheets.put(sheet, sort == 0 ? (Object) new short[n] : new float[n]);
      return n;
    });
  }

  public int mark(int sheet, int place, int v) {
    return of(() -> {
      Object row = row(sheet);
      refuse(place < 0 || place >= numbers(row).size(), INDEX);
      if (row instanceof short[] shorts) {
        refuse(v == NONE, KIND);
        shorts[place] = (short) v;
      } else {
        refuse(v != NONE && Math.abs((long) v) > 99999, BAD);
        ((float[]) row)[place] = v == NONE ? Float.NaN : v;
      }
      return 1;
    });
  }

  public int pour(int sheet) {
    return of(() -> {
      List<Integer> row = numbers(row(sheet));
      List<Integer> were = new ArrayList<>(now.bars);
      for (int k = 0; k < Math.min(row.size(), were.size()); k++) {
        if (row.get(k) != null) {
          now.bars.set(k, Math.max(0, Math.min(99, row.get(k))));
        }
      }
      return (int) IntStream.range(0, were.size()).filter(k -> !were.get(k).equals(now.bars.get(k))).count();
    });
  }

  public int reads(int sheet) {
    return of(() -> {
      List<Integer> row = numbers(row(sheet));
      return IntStream.range(0, row.size()).filter(k -> row.get(k) != null && row.get(k) != now.loudIn(k))
          .findFirst().orElse(NONE);
    });
  }

  public int copy(int from, int place, int to, int at, int many) {
    return of(() -> {
      in(from, 0, 3);
      in(to, 0, 3);
      Object source = row(from), target = row(to);
      refuse(source.getClass() != target.getClass(), KIND);
      refuse(many < 0 || place < 0 || at < 0, INDEX);
      refuse((long) place + many > numbers(source).size() || (long) at + many > numbers(target).size(), INDEX);
      System.arraycopy(source, place, target, at, many);
      return many;
    });
  }

  private static int thingOf(Object held) {
    return held == null ? 0 : held instanceof One ? 1 : held instanceof Integer ? 3 : 2;
  }

  public int lay(int slot, int thing, int k) {
    return of(() -> {
      in(slot, 0, 4);
      in(thing, 0, 3);
      Object holds = null;
      if (thing == 1) { holds = one(k).twin(); }
      if (thing == 2) {
        Object row = row(k);
        holds = row instanceof short[] s ? (Object) s.clone() : ((float[]) row).clone();
      }
      if (thing == 3) { holds = k; }
      return thingOf(slots.put(slot, holds));
    });
  }

  private Object heldBy(int slot) {
    in(slot, 0, 4);
    refuse(slots.get(slot) == null, NOTHING);
    return slots.get(slot);
  }

  public int ask(int slot, int kind) {
    return of(() -> {
      in(kind, 0, 5);
      Object held = heldBy(slot);
      if (held instanceof One o && o.under(kind)) {
        return o.itsKind().worth(o);
      }
      return KIND;
    });
  }

  public int item(int slot, int place) {
    return of(() -> {
      Object held = heldBy(slot);
      refuse(thingOf(held) != 2, KIND);
      List<Integer> row = numbers(held);
      refuse(place < 0 || place >= row.size(), INDEX);
      refuse(row.get(place) == null, KIND);
      return row.get(place);
    });
  }

  public int remains(int slot, int n) {
    return of(() -> {
      Object held = heldBy(slot);
      refuse(thingOf(held) != 3, KIND);
      refuse(n == 0, NO);
      return (Integer) held % n;
    });
  }

  public int tell(int v) {
    if (waiting.size() == 60) {
      return FULL;
    }
    waiting.add(v);
    return waiting.size();
  }

  public int check(int n) {
    List<Integer> told = new ArrayList<>(waiting);
    waiting.clear();
    return of(() -> {
      in(n, 1, 30);
      refuse(image == null, NO);
      List<Integer> due = new ArrayList<>();
      World t = image.twin();
      for (int k = 0; k < n && t.second < 99999; k++) {
        due.add(t.pass());
        due.add(t.harm);
      }
      if (told.equals(due)) {
        return 0;
      }
      int right = 0;
      while (right < told.size() && right < due.size() && told.get(right).equals(due.get(right))) {
        right++;
      }
      return 1 + right;
    });
  }

  public int keep() {
    image = now.twin();
    return now.people.size();
  }

  public int back() {
    if (image == null) {
      return NO;
    }
    now = image.twin();
    return now.people.size();
  }

  public int count(int what) {
    int[] row = {now.people.size(), now.bars.size(), now.second, now.coughs(), now.harm, now.dry, now.near,
        now.laws.size(), waiting.size(), tape.length(), now.z};
    return what < 0 || what >= row.length ? BAD : row[what];
  }
}
