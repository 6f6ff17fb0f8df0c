import java.util.Arrays;

/** One boundary at a time: a new object, the calls up to the boundary, then the call whose answer the document tells. */
final class Edges {
  static final int BAD = -1000000001, NO = -1000000002, FULL = -1000000003, NONE = -1000000005,
      NOTHING = -1000000011, KIND = -1000000012, INDEX = -1000000013, SIZE = -1000000014;
  static final int MIN = Integer.MIN_VALUE, MAX = Integer.MAX_VALUE;
  static final int LAST_SECOND = 99999;

  interface Calls {
    void on(HallCoughs x);
  }

  interface Call {
    int on(HallCoughs x);
  }

  interface CallOf {
    int on(HallCoughs x, int v);
  }

  private interface View {
    int[] of(HallCoughs x);
  }

  /** What can be seen of an object, in parts, so that each object stays below its 512 calls. */
  private static final View[] VIEWS = {Edges::hallSeen, Edges::slotsSeen, Edges::sheetsSeen, Edges::imageSeen, Edges::tapeSeen};

  static final Calls NEW = x -> { };

  private final Due d = new Due();

  void end() {
    d.end();
  }

  void answers(String sentence, Calls upTo, Call last, int want) {
    HallCoughs x = new HallCoughs();
    upTo.on(x);
    d.due(sentence, last.on(x), want);
  }

  /** The answer is a refusal, and whatever can be seen is as if the call had not been made. */
  void refuses(String sentence, Calls upTo, Call last, int want) {
    answers(sentence, upTo, last, want);
    alike(sentence, x -> {
      upTo.on(x);
      last.on(x);
    }, upTo);
  }

  /** The answers right at both ends of a range; BAD right outside of it, and far. */
  void range(String sentence, Calls upTo, CallOf call, int[] low, int[] high) {
    answers(sentence + ": " + low[0], upTo, x -> call.on(x, low[0]), low[1]);
    answers(sentence + ": " + high[0], upTo, x -> call.on(x, high[0]), high[1]);
    for (int v : new int[] {low[0] - 1, high[0] + 1, MIN, MAX}) {
      refuses(sentence + ": " + v, upTo, x -> call.on(x, v), BAD);
    }
  }

  static int[] at(int v, int answer) {
    return new int[] {v, answer};
  }

  /** Two runs of calls leave objects that can't be told apart. */
  void alike(String sentence, Calls one, Calls other) {
    for (int k = 0; k < VIEWS.length; k++) {
      HallCoughs x = new HallCoughs();
      HallCoughs y = new HallCoughs();
      one.on(x);
      other.on(y);
      int[] left = VIEWS[k].of(x);
      int[] right = VIEWS[k].of(y);
      d.holds(sentence + ": nothing else changes (view " + k + ", place " + Arrays.mismatch(left, right) + ")",
          Arrays.equals(left, right));
    }
  }

  private static int[] hallSeen(HallCoughs x) {
    Seen seen = new Seen();
    for (int what = 0; what <= 10; what++) {
      seen.add(x.count(what));
    }
    seen.add(x.did());
    for (int p = 0; p < 10; p++) {
      for (int what = 0; what <= 8; what++) {
        seen.add(x.told(p, what));
      }
      seen.add(x.fine(p));
    }
    for (int t = 0; t < 24; t++) {
      seen.add(x.music(t));
    }
    for (int key = 0; key < 3; key++) {
      seen.add(x.why(key));
    }
    for (int text = 0; text < 14; text++) {
      seen.add(x.textTold(text, 0));
      seen.add(x.textTold(text, 1));
    }
    seen.add(x.behind(60, 0));
    seen.add(x.behind(60, 1));
    return seen.all();
  }

  private static int[] slotsSeen(HallCoughs x) {
    Seen seen = new Seen();
    for (int slot = 0; slot < 5; slot++) {
      for (int kind = 0; kind < 6; kind++) {
        seen.add(x.ask(slot, kind));
      }
      for (int place = 0; place <= 24; place++) {
        seen.add(x.item(slot, place));
      }
      seen.add(x.remains(slot, MIN));
    }
    return seen.all();
  }

  private static int[] sheetsSeen(HallCoughs x) {
    Seen seen = new Seen();
    for (int sheet = 0; sheet < 4; sheet++) {
      seen.add(x.lay(sheet, 2, sheet));
      for (int other = 0; other < 4; other++) {
        seen.add(x.copy(sheet, 0, other, 0, 0)); // KIND, if they are not of one sort
      }
      for (int place = 0; place <= 24; place++) {
        seen.add(x.item(sheet, place));
      }
    }
    return seen.all();
  }

  private static int[] imageSeen(HallCoughs x) {
    Seen seen = new Seen();
    seen.add(x.count(8));
    seen.add(x.check(30));
    seen.add(x.back());
    for (int seenThere : hallSeen(x)) {
      seen.add(seenThere);
    }
    return seen.all();
  }

  private static int[] tapeSeen(HallCoughs x) {
    Seen seen = new Seen();
    seen.add(x.count(9));
    int text = x.text();
    seen.add(text);
    seen.add(x.textTold(text, 0));
    seen.add(x.textTold(text, 1));
    for (int p = 0; p < 10; p++) {
      seen.add(x.told(p, 6));
      seen.add(x.fine(p));
    }
    return seen.all();
  }

  /** Numbers in a row that grows. */
  private static final class Seen {
    private int[] row = new int[1024];
    private int many = 0;

    void add(int v) {
      row[many] = v;
      many++;
    }

    int[] all() {
      return Arrays.copyOf(row, many);
    }
  }

  // ---- calls that many boundaries begin with

  /** COUGHERS of AGE 0 on SEATS from 0 on. */
  static Calls people(int many) {
    return x -> {
      for (int p = 0; p < many; p++) {
        x.person(0, p, 0);
      }
    };
  }

  static Calls then(Calls first, Calls second) {
    return x -> {
      first.on(x);
      second.on(x);
    };
  }

  /** A TEXT alone on THE TAPE, whatever was on it. */
  static Calls law(String text) {
    return x -> {
      x.trim(0);
      Due.tellText(x, text);
    };
  }

  /** Up to a SECOND: 500 calls for the last one. */
  static void runTo(HallCoughs x, int second) {
    for (int left = second; left > 0; left -= 200) {
      x.run(Math.min(200, left));
    }
  }

  /** Something of everything, so that a refused call has much that it could change. */
  static void furnish(HallCoughs x) {
    x.person(3, 4, 50);
    x.person(0, 5, 70);
    x.person(4, 29, 61);
    x.person(5, 0, 0);
    x.set(0, 4, 7);
    x.set(1, 3, 95);
    for (int bar = 0; bar < 4; bar++) {
      x.loud(bar, 20 * bar + 3);
    }
    x.hall(0, 44);
    x.hall(1, 5);
    x.seed(77);
    Due.tellText(x, "fine c*2+h");
    Due.tellText(x, "harm n*50-l");
    Due.tellText(x, "itch a/9+d/9");
    x.run(3);
    x.sheet(0, 0, 5);
    x.mark(0, 1, 7);
    x.mark(0, 4, -7);
    x.sheet(1, 1, 4);
    x.mark(1, 0, NONE);
    x.mark(1, 3, 70000);
    x.sheet(2, 0, 0);
    x.lay(0, 1, 0);
    x.lay(1, 2, 1);
    x.lay(2, 3, -11);
    x.lay(3, 2, 0);
    x.keep();
    x.run(4);
    x.turns(1, 2);
    x.tell(0);
    x.tell(5);
    Due.feedText(x, "fine h+7");
  }
}
