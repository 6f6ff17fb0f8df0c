/** Boundaries of promises 26 to 30: THE TAPE, texts. */
public final class TextsEdgesTest {
  private static final int BAD = Edges.BAD, FULL = Edges.FULL, NONE = Edges.NONE, MIN = Edges.MIN, MAX = Edges.MAX;
  private static final int COUGHER = 0;
  private static final String[] KEYS = {"itch", "harm", "fine"};
  private static final String[] NAMES = {"adi", "nl", "ch"};
  private static final Edges e = new Edges();

  public static void main(String[] args) {
    feedRoom();
    feedBytes();
    trim();
    textUsesTheTapeUp();
    textRoom();
    keys();
    names();
    numbers();
    blanks();
    words();
    bytesThatAreSigns();
    signs();
    endTooSoon();
    firstFaultCounts();
    asLongAsTheTape();
    openOnes();
    nots();
    openOnesAndNots();
    worthOfSigns();
    worthWraps();
    worthOfNames();
    loosestFirst();
    textToldRanges();
    whyRanges();
    whichCounts();
    e.end();
  }

  // ---- promise 26

  private static Edges.Calls fed(int many) {
    return x -> {
      for (int k = 0; k < many; k++) {
        x.feed(0x20202020, 0x20202020, 0x20202020);
      }
    };
  }

  private static Edges.Calls bytes(int many) {
    return Edges.then(fed((many + 11) / 12), x -> x.trim(many));
  }

  private static void feedRoom() {
    for (int k = 0; k < 8; k++) {
      e.answers("26: behind " + 12 * k, fed(k), x -> x.feed(0, 0, 0), 12 * k + 12);
    }
    e.refuses("26: FULL: behind 96", fed(8), x -> x.feed(0, 0, 0), FULL);
    e.answers("26: behind 84, so that it is full", bytes(84), x -> x.feed(0, 0, 0), 96);
    e.answers("26: behind 83", bytes(83), x -> x.feed(0, 0, 0), 95);
    e.refuses("26: FULL: behind 85", bytes(85), x -> x.feed(0, 0, 0), FULL);
    e.refuses("26: FULL: behind 95", bytes(95), x -> x.feed(0, 0, 0), FULL);
    e.answers("26: behind 1", bytes(1), x -> x.feed(0, 0, 0), 13);
    e.answers("26: room again, cut to nothing", Edges.then(fed(8), x -> x.trim(0)), x -> x.feed(0, 0, 0), 12);
    e.answers("26: room again, used up", Edges.then(fed(8), x -> x.text()), x -> x.feed(0, 0, 0), 12);
    e.answers("26: no room again by an IMAGE", x -> {
      x.keep();
      fed(8).on(x);
      x.back();
    }, x -> x.feed(0, 0, 0), FULL);
  }

  /** A TEXT whose FAULT is just at the byte that is asked for tells that it stands there. */
  private static void feedBytes() {
    int blanks = 0x20202020;
    for (int k = 0; k < 12; k++) {
      int place = k;
      int[] three = {blanks, blanks, blanks};
      three[k / 4] = blanks & ~(255 << 24 - 8 * (k % 4)) | '#' << 24 - 8 * (k % 4);
      e.answers("26: byte " + k + ", the highest of each first", x -> x.feed(three[0], three[1], three[2]), x -> x.text(),
          -100 - place);
    }
    e.answers("26: behind those that are there", Edges.then(bytes(5), x -> x.feed(0x69746368, 0x20372020, blanks)), x -> x.text(), 0);
    e.answers("26: in place of those that were cut", x -> {
      Due.feedText(x, "itch 8888888");
      x.trim(5);
      x.feed(0x37202020, blanks, blanks);
      x.text();
      x.person(COUGHER, 0, 0);
    }, x -> x.told(0, 6), 7);
    for (int v : new int[] {MIN, -1, 0, 1, MAX}) {
      e.answers("26: any numbers: " + v, Edges.NEW, x -> x.feed(v, v, v), 12);
      e.answers("26: a sign by itself: " + v, x -> x.feed(v, v, v), x -> x.text(), -100);
    }
  }

  // ---- promise 27

  private static void trim() {
    e.range("27: of 0", Edges.NEW, (x, v) -> x.trim(v), Edges.at(0, 0), Edges.at(0, 0));
    e.range("27: of 12", fed(1), (x, v) -> x.trim(v), Edges.at(0, 0), Edges.at(12, 12));
    e.range("27: of 96", fed(8), (x, v) -> x.trim(v), Edges.at(0, 0), Edges.at(96, 96));
    e.range("27: of 7, that were more", bytes(7), (x, v) -> x.trim(v), Edges.at(0, 0), Edges.at(7, 7));
    e.range("27: among others", Edges::furnish, (x, v) -> x.trim(v), Edges.at(0, 0), Edges.at(8, 8));
    for (int n : new int[] {0, 1, 11, 12}) {
      e.answers("27: how many it has", Edges.then(fed(1), x -> x.trim(n)), x -> x.count(9), n);
    }
    e.refuses("27: none, when it is used up", Edges.then(fed(1), x -> x.text()), x -> x.trim(1), BAD);
    e.alike("27: all of it", Edges.then(Edges::furnish, x -> x.trim(8)), Edges::furnish);
    e.answers("27: its first ones", Edges.then(Edges.people(1), x -> {
      Due.feedText(x, "itch 123");
      x.trim(6);
      x.text();
    }), x -> x.told(0, 6), 1);
  }

  // ---- promise 28

  private static void textUsesTheTapeUp() {
    e.answers("28: a TEXT uses it up", Edges.law("itch a"), x -> x.count(9), 0);
    e.answers("28: a FAULT uses it up", Edges.law("itch"), x -> x.count(9), 0);
    e.answers("28: FULL uses it up", Edges.then(texts(14), Edges.law("itch a")), x -> x.count(9), 0);
    e.answers("28: it is empty then", Edges.law("itch a"), x -> x.text(), -100);
    e.alike("28: a FAULT changes nothing but THE TAPE", Edges.then(Edges::furnish, Edges.law("itch a+")),
        Edges.then(Edges::furnish, x -> x.trim(0)));
    e.alike("28: a FAULT at the end of a long one changes nothing", Edges.then(Edges::furnish, Edges.law("harm n*(l+7)+9/9&!l d")),
        Edges.then(Edges::furnish, x -> x.trim(0)));
    e.alike("28: FULL changes nothing but THE TAPE", Edges.then(Edges::furnish, Edges.then(texts(11), Edges.law("itch 99"))),
        Edges.then(Edges::furnish, Edges.then(texts(11), x -> x.trim(0))));
  }

  /** So many TEXTS of fine. */
  private static Edges.Calls texts(int many) {
    return x -> {
      for (int k = 0; k < many; k++) {
        Edges.law("fine c+1").on(x);
      }
    };
  }

  private static Edges.Calls onTape(String text) {
    return x -> {
      x.trim(0);
      Due.feedText(x, text);
    };
  }

  private static void textRoom() {
    e.answers("28: the first", onTape("itch a"), x -> x.text(), 0);
    e.answers("28: the fourteenth", Edges.then(texts(13), onTape("itch a")), x -> x.text(), 13);
    e.answers("28: FULL: a fifteenth", Edges.then(texts(14), onTape("itch a")), x -> x.text(), FULL);
    e.answers("28: FAULT ahead of FULL", Edges.then(texts(14), onTape("itch a)")), x -> x.text(), -106);
    e.answers("28: FAULT of an empty one ahead of FULL", texts(14), x -> x.text(), -100);
    e.answers("28: still fourteen", Edges.then(texts(14), Edges.law("itch a")), x -> x.count(7), 14);
    e.answers("28: a FAULT takes no number", Edges.then(Edges.law("itch"), onTape("itch a")), x -> x.text(), 0);
    e.answers("28: room again, as in THE IMAGE", Edges.then(texts(13), x -> {
      x.keep();
      Due.tellText(x, "itch a");
      x.back();
      Due.feedText(x, "harm n");
    }), x -> x.text(), 13);
    e.answers("28: that one then", Edges.then(texts(13), x -> {
      x.keep();
      Due.tellText(x, "itch a");
      x.back();
      Due.tellText(x, "harm n");
    }), x -> x.textTold(13, 0), 1);
  }

  private static void isText(String text) {
    e.answers("28: " + text, onTape(text), x -> x.text(), 0);
  }

  private static void isFault(String text, int place) {
    e.answers("28: " + text, onTape(text), x -> x.text(), -100 - place);
  }

  private static void keys() {
    for (String key : KEYS) {
      isText(key + " 1");
      isFault(key, 4);
      isFault(key + key + " 1", 0);
      isFault(key + " " + key, 5);
      isFault(key.substring(0, 3) + " 1", 0);
      isFault(key.substring(1) + " 1", 0);
      isFault(key + "s 1", 0);
      isFault("x" + key + " 1", 0);
      isFault(key.toUpperCase() + " 1", 0);
      isFault("  " + key.substring(0, 2) + " 1", 2);
      for (int k = 0; k < 4; k++) {
        isFault(key.substring(0, k) + "z" + key.substring(k + 1) + " 1", 0);
      }
    }
    isFault("1", 0);
    isFault("a", 0);
    isFault("(itch 1)", 0);
    isFault("!itch 1", 0);
    isFault(" 12345", 1);
    isFault("+", 0);
  }

  private static void names() {
    for (int key = 0; key < 3; key++) {
      for (char name = 'a'; name <= 'z'; name++) {
        String text = KEYS[key] + " " + name;
        if (NAMES[key].indexOf(name) >= 0) {
          isText(text);
          isFault(text + name, 5);
          isFault(text.toUpperCase().replace(KEYS[key].toUpperCase(), KEYS[key]), 5);
        } else {
          isFault(text, 5);
        }
      }
    }
  }

  private static void numbers() {
    isText("itch 0");
    isText("itch 9");
    isText("itch 9999");
    isText("itch 0000");
    isText("itch 0001");
    isFault("itch 10000", 5);
    isFault("itch 00000", 5);
    isFault("itch 00001", 5);
    isFault("itch 1+99999", 7);
    isFault("itch (12345", 6);
    isFault("itch !123456789", 6);
    isText("itch 1234+1234");
    isText("itch 1234/1234");
    isFault("itch 1234 5", 10);
    gives("9999", 9999);
    gives("0000", 0);
    gives("0012", 12);
  }

  private static void blanks() {
    isText("itch a");
    isText("   itch   a   ");
    isText("itch a < d & ! ( i + 1 ) | 0");
    isText("itch a<d&!(i+1)|0");
    isText("itch(a)");
    isText("itch!a");
    isText("itch (a)");
    isFault("itcha", 0);
    isFault("it ch a", 0);
    isFault("itch 1 2", 7);
    isFault("itch a d", 7);
    isFault("itch a 1", 7);
    isFault("itch 1 a", 7);
    isFault("itch 12 34", 8);
    isFault("itch a   d", 9);
    isText("itch a" + " ".repeat(90));
    isText(" ".repeat(90) + "itch a");
  }

  /** Words right behind one another, and where a word ends. */
  private static void words() {
    isFault("itch1", 4);
    isFault("itch1 ", 4);
    isFault("itch12345", 4);
    isFault("itch 1a", 6);
    isFault("itch a1", 6);
    isFault("itch 1a+d", 6);
    isFault("itch 1234a", 9);
    isFault("itch 12345a", 5);
    isFault("itch aa", 5);
    isFault("itch ad", 5);
    isFault("itchz 1", 0);
    isFault("itcha 1", 0);
    isFault("itch0 1", 4);
    isFault("itch9 1", 4);
    isText("itch 1+a");
    isText("itch (a)+1");
    isFault("itch (a)1", 8);
    isFault("itch (a)d", 8);
    isFault("itch (a)(d)", 8);
    isFault("itch (a)!d", 8);
  }

  /** Bytes right beside those of letters and digits, and the ends of what a byte can be. */
  private static void bytesThatAreSigns() {
    for (int b : new int[] {0, 1, 9, 10, 13, 31, 35, 44, 46, 58, 59, 64, 65, 90, 91, 95, 96, 123, 126, 127, 128, 160, 225, 254, 255}) {
      char sign = (char) b;
      isFault(sign + "itch a", 0);
      isFault("itch" + sign + " a", 4);
      isFault("itch " + sign + "a", 5);
      isFault("itch a" + sign, 6);
      isFault("itch 1" + sign, 6);
      isFault("itch a+" + sign, 7);
      isFault("itch (a" + sign, 7);
    }
  }

  private static void signs() {
    for (String join : new String[] {"|", "&", "<", "=", ">", "+", "-", "*", "/"}) {
      isText("itch a" + join + "d");
      isText("itch a" + join + "!d");
      isText("itch a" + join + "(d)");
      isFault("itch " + join + "a", 5);
      isFault("itch" + join + "a", 4);
      isFault("itch a" + join, 7);
      isFault("itch a" + join + join + "d", 7);
      isFault("itch a" + join + ")", 7);
      isFault("itch (" + join + "a)", 6);
      isFault("itch !" + join + "a", 6);
    }
    for (String join : new String[] {"|", "&", "+", "-", "*", "/"}) {
      isText("itch a" + join + "d" + join + "i");
    }
    for (String one : new String[] {"<", "=", ">"}) {
      for (String other : new String[] {"<", "=", ">"}) {
        isFault("itch a" + one + "d" + other + "i", 8);
        isFault("itch (a" + one + "d" + other + "i)", 9);
        isFault("itch a" + one + "d+1" + other + "i", 10);
        isText("itch a" + one + "d&d" + other + "i");
        isText("itch a" + one + "d|d" + other + "i");
        isText("itch (a" + one + "d)" + other + "i");
        isText("itch a" + one + "(d" + other + "i)");
      }
    }
    isFault("itch ()", 6);
    isFault("itch )", 5);
    isFault("itch a)", 6);
    isFault("itch (a))", 8);
    isFault("itch a(", 6);
    isFault("itch a!", 6);
    isFault("itch a!d", 6);
    isFault("itch !)", 6);
  }

  private static void endTooSoon() {
    isFault("", 0);
    isFault(" ", 1);
    isFault("            ", 12);
    isFault(" ".repeat(96), 96);
    isFault("itch ", 5);
    isFault("itch   ", 7);
    isFault("itch (", 6);
    isFault("itch (a", 7);
    isFault("itch (a  ", 9);
    isFault("itch ((a)", 9);
    isFault("itch !", 6);
    isFault("itch a+ ", 8);
    isFault("itch a<", 7);
    e.answers("28: the end is behind all bytes that were fed", x -> x.feed(0x69746368, 0x20202020, 0x20202020), x -> x.text(), -112);
    e.answers("28: not behind those that were cut", x -> {
      x.feed(0x69746368, 0x20372020, 0x20202020);
      x.trim(5);
    }, x -> x.text(), -105);
  }

  /** Behind a FAULT there may be more that would be one, and what would be right in another place. */
  private static void firstFaultCounts() {
    isFault("itch ())", 6);
    isFault("itch () 1", 6);
    isFault("itch (()", 7);
    isFault("itch (())", 7);
    isFault("itch (a+))", 8);
    isFault("itch (a+)a", 8);
    isFault("itch !())", 7);
    isFault("itch (a b)", 8);
    isFault("itch (12345)+123456", 6);
    isFault("itch x+y", 5);
    isFault("itch a a)", 7);
    isFault("itch a+* (", 7);
    isFault("harm itch harm", 5);
    isFault("| itch a", 0);
    isFault("a | itch", 0);
  }

  private static void asLongAsTheTape() {
    isText("itch " + "a+".repeat(45) + "a");
    isFault("itch " + "a+".repeat(45) + "+", 95);
    isFault("itch " + "a+".repeat(45) + " ", 96);
    isFault("itch " + "(a)+".repeat(22) + "(a+", 96);
    isFault(" ".repeat(92) + "itch", 96);
    isFault(" ".repeat(95) + "x", 95);
    isText("itch" + "(a)+".repeat(22) + "1234");
    isText("itch" + "!".repeat(8) + "1+" + "!a+".repeat(27) + "1");
    e.answers("29: as many NAMES as there can be", Edges.law("itch " + "a+".repeat(45) + "a"), x -> x.textTold(0, 1), 46);
    e.answers("28: all of them count", Edges.then(x -> x.person(COUGHER, 0, 2), Edges.law("itch " + "a+".repeat(45) + "a")),
        x -> x.told(0, 6), 92);
    gives("1-".repeat(45) + "1", -44);
  }

  private static String within(String open, int many, String inner) {
    int ends = (int) open.repeat(many).chars().filter(c -> c == '(').count();
    return "itch " + open.repeat(many) + inner + ")".repeat(ends);
  }

  private static void openOnes() {
    isText(within("(", 8, "a"));
    isFault(within("(", 9, "a"), 13);
    isFault(within("(", 10, "a"), 13);
    isFault("itch ((((((((", 13);
    isFault("itch (((((((((", 13);
    isText(within("(", 7, "(a)+(a)"));
    isFault(within("(", 7, "(a)+((a))"), 17);
    isText("itch ((((((((a))))))))+((((((((a))))))))");
    isFault("itch ((((((((a))))))))+(((((((((a)))))))))", 31);
    isText("itch " + "(1)+".repeat(9) + "(1)");
    isText(within("(", 8, "a") + "*(1)");
  }

  private static void nots() {
    isText(within("!", 8, "a"));
    isFault(within("!", 9, "a"), 13);
    isFault(within("!", 10, "a"), 13);
    isFault("itch !!!!!!!!", 13);
    isFault("itch !!!!!!!!!", 13);
    isText("itch !!!!!!!!a+!!!!!!!!a");
    isFault("itch !!!!!!!!a+!!!!!!!!!a", 23);
    isText("itch " + "!1+".repeat(9) + "!1");
    isText("itch !!!!!!!(!a+!a)");
    isFault("itch !!!!!!!(!a+!!a)", 17);
  }

  private static void openOnesAndNots() {
    isText("itch " + "(".repeat(8) + "!".repeat(8) + "a" + ")".repeat(8));
    isText("itch " + "!".repeat(8) + "(".repeat(8) + "a" + ")".repeat(8));
    isFault("itch " + "(".repeat(8) + "!".repeat(9) + "a" + ")".repeat(8), 21);
    isFault("itch " + "!".repeat(8) + "(".repeat(9) + "a" + ")".repeat(9), 21);
    isText(within("!(", 8, "a"));
    isText(within("(!", 8, "a"));
    isFault(within("!(", 8, "!a"), 21);
    isFault(within("!(", 8, "(a)"), 21);
    isFault(within("(!", 8, "!a"), 21);
    isFault(within("(!", 8, "(a)"), 21);
    isFault("itch !!!!(!!!!(!a))", 15);
    isText("itch !!!!(!!!!(a)+!!!!a)+!!!!!!!!a");
    isFault("itch ((((!((((!(a)))))))))", 15);
    isText("itch ((((!((((!a))))))))+((((((((a))))))))");
  }

  /** What fine gives where COUGHS is 1 and HARM 60. */
  private static void gives(String law, int want) {
    e.answers("28: what " + law + " gives", Edges.then(Edges.people(1), x -> {
      x.set(0, 3, 999);
      x.run(1);
      Due.tellText(x, "fine " + law);
    }), x -> x.fine(0), want);
  }

  private static void worthOfSigns() {
    String[][] rows = {{"4<5", "1"}, {"5<5", "0"}, {"6<5", "0"}, {"4=5", "0"}, {"5=5", "1"}, {"6=5", "0"}, {"4>5", "0"}, {"5>5", "0"},
        {"6>5", "1"}, {"0-1<0", "1"}, {"0>0-1", "1"}, {"0&0", "0"}, {"0&1", "0"}, {"1&0", "0"}, {"1&1", "1"}, {"2&4", "1"}, {"(0-1)&1", "1"},
        {"0|0", "0"}, {"0|1", "1"}, {"1|0", "1"}, {"1|1", "1"}, {"2|4", "1"}, {"(0-1)|0", "1"}, {"!0", "1"}, {"!1", "0"}, {"!2", "0"},
        {"!(0-1)", "0"}, {"!!7", "1"}, {"!!0", "0"}, {"7/2", "3"}, {"(0-7)/2", "-3"}, {"7/(0-2)", "-3"}, {"(0-7)/(0-2)", "3"}, {"1/2", "0"},
        {"(0-1)/2", "0"}, {"0/5", "0"}, {"5/0", "0"}, {"0/0", "0"}, {"(0-5)/0", "0"}, {"5/(1-1)", "0"}, {"0|5/0", "0"}, {"1|5/0", "1"},
        {"0&5/0", "0"}};
    for (String[] row : rows) {
      gives(row[0], Integer.parseInt(row[1]));
    }
  }

  private static void worthWraps() {
    String least = "(0-2048*2048*512)";
    String most = "(2048*2048*512-1)";
    gives(least, MIN);
    gives(most, MAX);
    gives(most + "+1", MIN);
    gives(least + "-1", MAX);
    gives("0-" + least, MIN);
    gives(least + "*2", 0);
    gives(most + "*2", -2);
    gives(least + "/(0-1)", MIN);
    gives(least + "/0", 0);
    gives(least + "<" + most, 1);
    gives(most + "<" + least, 0);
    gives(most + ">" + least, 1);
    gives("!" + least, 0);
    gives(least + "&" + least, 1);
    gives("9999*9999*9999", 9999 * 9999 * 9999);
  }

  private static void worthOfNames() {
    gives("c", 1);
    gives("h", 60);
    gives("h*100+c", 6001);
    Edges.Calls one = x -> {
      x.person(COUGHER, 0, 99);
      x.hall(0, 99);
      x.set(0, 3, 99);
    };
    for (String name : new String[] {"a", "d", "i"}) {
      e.answers("28: the most by " + name, Edges.then(one, Edges.law("itch " + name)), x -> x.told(0, 6), 99);
    }
    e.answers("28: a is AGE", Edges.then(one, Edges.then(x -> x.set(0, 2, 0), Edges.law("itch a"))), x -> x.told(0, 6), 0);
    e.answers("28: d is DRY", Edges.then(one, Edges.then(x -> x.hall(0, 0), Edges.law("itch d"))), x -> x.told(0, 6), 0);
    e.answers("28: i is ITCH", Edges.then(one, Edges.then(x -> x.set(0, 3, 0), Edges.law("itch i"))), x -> x.told(0, 6), 0);
    e.answers("28: i is ITCH ahead of what it gives", x -> {
      x.person(COUGHER, 0, 0);
      x.set(0, 3, 30);
      Due.tellText(x, "itch i");
      x.run(1);
    }, x -> x.told(0, 3), 60);
    for (int coughing : new int[] {1, 10}) {
      for (int loud : new int[] {0, 99}) {
        e.answers("28: n " + coughing + ", l " + loud, Edges.then(Edges.people(10), x -> {
          for (int p = 0; p < coughing; p++) {
            x.set(p, 3, 999);
          }
          x.loud(0, loud);
          Due.tellText(x, "harm n*100+l");
          x.run(1);
        }), x -> x.count(4), 100 * coughing + loud);
      }
    }
  }

  private static void loosestFirst() {
    gives("1|1&0", 1);
    gives("(1|1)&0", 0);
    gives("0&0|1", 1);
    gives("1&2<1", 0);
    gives("(2&2)<2", 1);
    gives("2&2<2", 0);
    gives("1<1+1", 1);
    gives("1+(1<1)", 1);
    gives("2+3*4", 14);
    gives("2*3+4", 10);
    gives("9-4-3", 2);
    gives("9-(4-3)", 8);
    gives("9-4+3", 8);
    gives("24/4/2", 3);
    gives("24/(4/2)", 12);
    gives("7/2*2", 6);
    gives("2*7/2", 7);
    gives("!1+1", 1);
    gives("!(1+1)", 0);
    gives("!0*5", 5);
    gives("5*!0", 5);
    gives("!0=1", 1);
    gives("!(0=1)", 1);
    gives("!1=1", 0);
  }

  // ---- promises 29, 30

  private static void textToldRanges() {
    e.refuses("29: no TEXT", Edges.NEW, x -> x.textTold(0, 0), BAD);
    e.range("29: text, of one", Edges.law("fine 1+c"), (x, v) -> x.textTold(v, 1), Edges.at(0, 2), Edges.at(0, 2));
    e.range("29: text, of fourteen", texts(14), (x, v) -> x.textTold(v, 0), Edges.at(0, 2), Edges.at(13, 2));
    e.range("29: text, among others", Edges::furnish, (x, v) -> x.textTold(v, 0), Edges.at(0, 2), Edges.at(2, 0));
    e.range("29: what", Edges.law("harm 1+n+l"), (x, v) -> x.textTold(0, v), Edges.at(0, 1), Edges.at(1, 3));
    for (int key = 0; key < 3; key++) {
      e.answers("29: KEY " + KEYS[key], Edges.law(KEYS[key] + " 7"), x -> x.textTold(0, 0), key);
      e.answers("29: one NUMBER", Edges.law(KEYS[key] + " 7"), x -> x.textTold(0, 1), 1);
      e.answers("29: one NAME", Edges.law(KEYS[key] + " !(" + NAMES[key].charAt(0) + ")"), x -> x.textTold(0, 1), 1);
    }
    e.answers("29: the same NAME again", Edges.law("itch a*a*7*7"), x -> x.textTold(0, 1), 4);
    e.answers("29: behind another TEXT, its own alone", Edges.then(Edges.law("itch a+d+i"), Edges.law("harm n")),
        x -> x.textTold(1, 1), 1);
    e.answers("29: behind one with a FAULT, its own alone", Edges.then(Edges.law("itch a+d+"), Edges.law("harm n")),
        x -> x.textTold(0, 1), 1);
    e.answers("29: behind one that was FULL, the fourteenth's own", Edges.then(texts(14), Edges.law("itch a+d+i")),
        x -> x.textTold(13, 1), 2);
    e.answers("29: digits of one NUMBER", Edges.law("itch 7777"), x -> x.textTold(0, 1), 1);
    e.answers("29: one that counts no more", Edges.then(Edges.law("itch a+d+i"), Edges.law("itch a")), x -> x.textTold(0, 1), 3);
    e.refuses("29: not in THE IMAGE", x -> {
      x.keep();
      Due.tellText(x, "itch a");
      x.back();
    }, x -> x.textTold(0, 0), BAD);
  }

  private static void whyRanges() {
    e.range("30: key, without TEXTS", Edges.NEW, (x, v) -> x.why(v), Edges.at(0, NONE), Edges.at(2, NONE));
    e.range("30: key, among others", Edges::furnish, (x, v) -> x.why(v), Edges.at(0, 2), Edges.at(2, 0));
    for (int told = 0; told < 3; told++) {
      for (int key = 0; key < 3; key++) {
        int asked = key;
        e.answers("30: " + KEYS[key] + ", when " + KEYS[told] + " is told", Edges.law(KEYS[told] + " 7"), x -> x.why(asked),
            asked == told ? 0 : NONE);
      }
    }
  }

  private static void whichCounts() {
    e.answers("30: the first", Edges.then(Edges.law("harm 1"), texts(13)), x -> x.why(1), 0);
    e.answers("30: the fourteenth", Edges.then(texts(13), Edges.law("harm 1")), x -> x.why(1), 13);
    e.answers("30: of fourteen the last", texts(14), x -> x.why(2), 13);
    e.answers("30: not the fifteenth", Edges.then(Edges.law("harm 1"), Edges.then(texts(13), Edges.law("harm 2"))), x -> x.why(1), 0);
    e.answers("30: not one with a FAULT", Edges.then(Edges.law("harm 1"), Edges.law("harm 2 2")), x -> x.why(1), 0);
    e.answers("30: the last one of a KEY, not of all", Edges.then(Edges.law("itch 1"), Edges.law("harm 2")), x -> x.why(0), 0);
    e.answers("30: as in THE IMAGE", Edges.then(Edges.law("itch 1"), x -> {
      x.keep();
      Due.tellText(x, "itch 2");
      x.back();
    }), x -> x.why(0), 0);
    e.answers("30: NONE, as in THE IMAGE", x -> {
      x.keep();
      Due.tellText(x, "itch 2");
      x.back();
    }, x -> x.why(0), NONE);
    e.answers("30: and so GROWS", Edges.then(Edges.people(1), x -> {
      x.keep();
      Due.tellText(x, "itch 2");
      x.back();
    }), x -> x.told(0, 6), 4);
    e.answers("30: the one that counts is worked out", Edges.then(Edges.people(1), Edges.then(Edges.law("itch 1"), Edges.law("itch 2"))),
        x -> x.told(0, 6), 2);
  }
}
