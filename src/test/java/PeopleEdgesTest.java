/** Boundaries of promises 1 to 10: a new object, people. */
public final class PeopleEdgesTest {
  private static final int BAD = Edges.BAD, NO = Edges.NO, FULL = Edges.FULL, NONE = Edges.NONE, KIND = Edges.KIND,
      NOTHING = Edges.NOTHING, MIN = Edges.MIN, MAX = Edges.MAX;
  private static final int COUGHER = 0, KEEPER = 1, COVERED = 2, FOLLOWER = 3, BORED = 4, SIGN = 5;
  private static final Edges e = new Edges();

  public static void main(String[] args) {
    nothingAtFirst();
    whoComesIsNew();
    personRanges();
    personSeats();
    personRoom();
    toldRanges();
    growsByAgeAndDry();
    growsHeld();
    growsWithSweet();
    cougherLetsGo();
    keeperLetsGo();
    coveredLetsGo();
    followerLetsGo();
    followerApart();
    boredLetsGo();
    signLetsGo();
    letsGoAheadOfGrowing();
    worth();
    as();
    turns();
    set();
    move();
    onSeat();
    dealRange();
    dealRoom();
    dealSeats();
    dealDraws();
    seed();
    e.end();
  }

  // ---- promise 1

  private static void nothingAtFirst() {
    e.answers("1: nobody", Edges.NEW, x -> x.count(0), 0);
    e.answers("1: nobody, so no 0", Edges.NEW, x -> x.told(0, 0), BAD);
    e.answers("1: 4 BARS", Edges.NEW, x -> x.loud(3, 0), 0);
    e.answers("1: no fifth BAR", Edges.NEW, x -> x.loud(4, 0), BAD);
    e.answers("1: THE SECOND is 0", Edges.NEW, x -> x.count(2), 0);
    e.answers("1: HARM is 0", Edges.NEW, x -> x.count(4), 0);
    e.answers("1: DRY is 30", Edges.NEW, x -> x.hall(0, 1), 30);
    e.answers("1: NEAR is 3", Edges.NEW, x -> x.hall(1, 1), 3);
    e.answers("1: z is 1", Edges.NEW, x -> x.seed(5), 1);
    e.answers("1: nobody did", Edges.NEW, x -> x.did(), 0);
    e.answers("1: no TEXT", Edges.NEW, x -> x.textTold(0, 0), BAD);
    e.answers("1: no byte on THE TAPE", Edges.NEW, x -> x.count(9), 0);
    e.answers("1: no number waits", Edges.NEW, x -> x.count(8), 0);
    e.answers("1: no IMAGE", Edges.NEW, x -> x.back(), NO);
    for (int k = 0; k < 4; k++) {
      int sheet = k;
      e.answers("1: SHEET " + k + " is MISSING", Edges.NEW, x -> x.pour(sheet), NOTHING);
      e.answers("1: BAR " + k + " has LOUD 0", Edges.NEW, x -> x.music(sheet), 0);
    }
    for (int k = 0; k < 5; k++) {
      int slot = k;
      e.answers("1: SLOT " + k + " holds nothing", Edges.NEW, x -> x.lay(slot, 0, 0), 0);
    }
    for (int k = 0; k < 3; k++) {
      int key = k;
      e.answers("1: no TEXT counts for " + k, Edges.NEW, x -> x.why(key), NONE);
    }
    e.alike("1: an object has nothing of another one", x -> Edges.furnish(new HallCoughs()), Edges.NEW);
  }

  private static void whoComesIsNew() {
    for (int what = 3; what <= 5; what++) {
      int asked = what;
      e.answers("1: 0 at first, what " + what, x -> x.person(0, 0, 99), x -> x.told(0, asked), 0);
      e.answers("1: 0 at first, also where another one was ahead of an IMAGE, what " + what, x -> {
        x.keep();
        x.person(0, 0, 99);
        x.set(0, 3, 999);
        x.run(1);
        x.set(0, 3, 5);
        x.set(0, 4, 5);
        x.back();
        x.person(0, 0, 99);
      }, x -> x.told(0, asked), 0);
    }
  }

  // ---- promise 2

  private static void personRanges() {
    e.range("2: KIND", Edges.NEW, (x, v) -> x.person(v, 1, 1), Edges.at(0, 0), Edges.at(5, 0));
    e.range("2: SEAT", Edges.NEW, (x, v) -> x.person(0, v, 1), Edges.at(0, 0), Edges.at(29, 0));
    e.range("2: AGE", Edges.NEW, (x, v) -> x.person(0, 1, v), Edges.at(0, 0), Edges.at(99, 0));
    e.range("2: KIND, among others", Edges::furnish, (x, v) -> x.person(v, 1, 1), Edges.at(0, 4), Edges.at(5, 4));
    e.range("2: AGE, among others", Edges::furnish, (x, v) -> x.person(0, 1, v), Edges.at(0, 4), Edges.at(99, 4));
  }

  private static void personSeats() {
    Edges.Calls onSeven = x -> x.person(0, 7, 1);
    e.refuses("2: NO: the SEAT is somebody's", onSeven, x -> x.person(5, 7, 99), NO);
    e.answers("2: one SEAT ahead", onSeven, x -> x.person(0, 6, 1), 1);
    e.answers("2: one SEAT behind", onSeven, x -> x.person(0, 8, 1), 1);
    e.refuses("2: NO: somebody came to it", Edges.then(onSeven, x -> x.move(0, 9)), x -> x.person(0, 9, 1), NO);
    e.answers("2: somebody left it", Edges.then(onSeven, x -> x.move(0, 9)), x -> x.person(0, 7, 1), 1);
    e.refuses("2: NO: the last one's SEAT", Edges.people(9), x -> x.person(0, 8, 1), NO);
    e.refuses("2: BAD ahead of NO: KIND", onSeven, x -> x.person(6, 7, 1), BAD);
    e.refuses("2: BAD ahead of NO: AGE", onSeven, x -> x.person(0, 7, 100), BAD);
  }

  private static void personRoom() {
    e.answers("2: the first", Edges.NEW, x -> x.person(0, 29, 0), 0);
    e.answers("2: the tenth", Edges.people(9), x -> x.person(0, 29, 0), 9);
    e.refuses("2: FULL: an eleventh", Edges.people(10), x -> x.person(0, 29, 0), FULL);
    e.refuses("2: NO ahead of FULL", Edges.people(10), x -> x.person(0, 9, 0), NO);
    e.refuses("2: BAD ahead of FULL: KIND", Edges.people(10), x -> x.person(-1, 29, 0), BAD);
    e.refuses("2: BAD ahead of FULL: SEAT", Edges.people(10), x -> x.person(0, 30, 0), BAD);
    e.refuses("2: BAD ahead of FULL: AGE", Edges.people(10), x -> x.person(0, 29, -1), BAD);
    e.answers("2: room again, as in THE IMAGE", x -> {
      Edges.people(9).on(x);
      x.keep();
      x.person(0, 20, 0);
      x.back();
    }, x -> x.person(0, 20, 0), 9);
  }

  // ---- promise 3

  private static void toldRanges() {
    e.refuses("3: nobody is there", Edges.NEW, x -> x.told(0, 0), BAD);
    e.range("3: one of one", x -> x.person(4, 1, 2), (x, v) -> x.told(v, 0), Edges.at(0, 4), Edges.at(0, 4));
    e.range("3: one of ten", Edges.people(10), (x, v) -> x.told(v, 1), Edges.at(0, 0), Edges.at(9, 9));
    e.range("3: what", x -> x.person(3, 1, 50), (x, v) -> x.told(0, v), Edges.at(0, 3), Edges.at(8, 108));
    e.range("3: one of four, among others", Edges::furnish, (x, v) -> x.told(v, 0), Edges.at(0, 3), Edges.at(3, 5));
  }

  private static void grows(String sentence, int age, int dry, int want) {
    e.answers("3: GROWS, " + sentence, x -> {
      x.person(0, 0, age);
      x.hall(0, dry);
    }, x -> x.told(0, 6), want);
  }

  private static void growsByAgeAndDry() {
    grows("the least", 0, 0, 1);
    grows("AGE 19", 19, 0, 1);
    grows("AGE 20", 20, 0, 2);
    grows("AGE 79", 79, 0, 4);
    grows("AGE 80", 80, 0, 5);
    grows("AGE 99", 99, 0, 5);
    grows("DRY 9", 0, 9, 1);
    grows("DRY 10", 0, 10, 2);
    grows("DRY 89", 0, 89, 9);
    grows("DRY 90", 0, 90, 10);
    grows("each is cut by itself", 19, 9, 1);
    grows("the most", 99, 99, 14);
  }

  private static void growsBy(String itch, int want) {
    e.answers("3: GROWS by itch " + itch, Edges.then(x -> x.person(0, 0, 0), Edges.law("itch " + itch)), x -> x.told(0, 6), want);
  }

  private static void growsHeld() {
    growsBy("0-2048*2048*512", 0);
    growsBy("0-1", 0);
    growsBy("0", 0);
    growsBy("1", 1);
    growsBy("98", 98);
    growsBy("99", 99);
    growsBy("100", 99);
    growsBy("2048*2048*512-1", 99);
    e.answers("3: GROWS by itch, held in a SECOND below", Edges.then(x -> {
      x.person(0, 0, 0);
      x.set(0, 3, 50);
    }, Edges.law("itch 0-1")), x -> x.run(1) + x.told(0, 3), 50);
    e.answers("3: GROWS by itch, held in a SECOND above", Edges.then(x -> x.person(0, 0, 0), Edges.law("itch 100")),
        x -> x.run(1) + x.told(0, 3), 99);
  }

  private static void growsWithSweet() {
    for (int sweet : new int[] {0, 1, 99}) {
      e.answers("3: GROWS with SWEET " + sweet, x -> {
        x.person(0, 0, 0);
        x.set(0, 4, sweet);
      }, x -> x.told(0, 6), sweet == 0 ? 4 : 0);
      e.answers("3: GROWS by a TEXT with SWEET " + sweet, x -> {
        x.person(0, 0, 0);
        x.set(0, 4, sweet);
        Due.tellText(x, "itch 9");
      }, x -> x.told(0, 6), sweet == 0 ? 9 : 0);
    }
  }

  /** LETS GO in second 0, whose rest by 60 is not this AGE's and by 30 not this SEAT. */
  private static void letsGo(int kind, int itch, int loud, int want) {
    e.answers("3: LETS GO, KIND " + kind + " with ITCH " + itch + ", LOUD " + loud, x -> {
      x.person(kind, 4, 33);
      x.set(0, 3, itch);
      x.loud(0, loud);
    }, x -> x.told(0, 7), want);
  }

  private static void cougherLetsGo() {
    letsGo(COUGHER, 0, 0, 0);
    letsGo(COUGHER, 99, 0, 0);
    letsGo(COUGHER, 99, 99, 0);
    letsGo(COUGHER, 100, 0, 1);
    letsGo(COUGHER, 100, 99, 1);
    letsGo(COUGHER, 999, 1, 1);
  }

  private static void keeperLetsGo() {
    for (int kind : new int[] {KEEPER, FOLLOWER}) {
      letsGo(kind, 99, 0, 0);
      letsGo(kind, 100, 0, 1);
      letsGo(kind, 100, 1, 0);
      letsGo(kind, 100, 99, 0);
      letsGo(kind, 199, 0, 1);
      letsGo(kind, 199, 1, 0);
      letsGo(kind, 200, 1, 1);
      letsGo(kind, 200, 99, 1);
    }
  }

  private static void coveredLetsGo() {
    for (int kind : new int[] {COVERED, BORED}) {
      letsGo(kind, 99, 50, 0);
      letsGo(kind, 99, 99, 0);
      letsGo(kind, 100, 49, 0);
      letsGo(kind, 100, 50, 1);
      letsGo(kind, 100, 99, 1);
      letsGo(kind, 199, 0, 0);
      letsGo(kind, 199, 49, 0);
      letsGo(kind, 200, 49, 1);
      letsGo(kind, 200, 0, 1);
    }
  }

  /** A FOLLOWER, 0, on a SEAT; a COUGHER, 1, on another one just coughed; it is not silent now. */
  private static Edges.Calls oneDid(int seat, int other, int near) {
    return x -> {
      x.bars(1);
      x.loud(0, 1);
      x.person(FOLLOWER, seat, 0);
      x.person(COUGHER, other, 0);
      x.hall(1, near);
      x.set(1, 3, 999);
      x.run(1);
      x.set(0, 3, 50);
    };
  }

  private static void followerLetsGo() {
    Edges.Calls did = oneDid(10, 11, 3);
    e.answers("3: FOLLOWER with ITCH 50, one near did", did, x -> x.told(0, 7), 1);
    e.answers("3: FOLLOWER with ITCH 49, one near did", Edges.then(did, x -> x.set(0, 3, 49)), x -> x.told(0, 7), 0);
    e.answers("3: FOLLOWER, one near did two seconds ahead", Edges.then(did, x -> {
      x.run(1);
      x.set(0, 3, 50);
      x.set(1, 3, 0);
      x.run(1);
      x.set(0, 3, 50);
    }), x -> x.told(0, 7), 0);
    e.answers("3: a KEEPER does not follow", Edges.then(did, x -> x.turns(0, KEEPER)), x -> x.told(0, 7), 0);
    e.answers("3: not itself", x -> {
      x.bars(1);
      x.loud(0, 1);
      x.person(FOLLOWER, 10, 0);
      x.set(0, 3, 999);
      x.run(1);
      x.set(0, 3, 199);
    }, x -> x.did() * 10 + x.told(0, 7), 10);
    e.answers("3: not in the same second", x -> {
      x.bars(1);
      x.loud(0, 1);
      x.person(COUGHER, 1, 0);
      x.person(FOLLOWER, 2, 0);
      x.set(0, 3, 99);
      x.set(1, 3, 60);
      x.run(1);
    }, x -> x.did(), 1);
    e.answers("3: but in the next one", x -> {
      x.bars(1);
      x.loud(0, 1);
      x.person(COUGHER, 1, 0);
      x.person(FOLLOWER, 2, 0);
      x.set(0, 3, 99);
      x.set(1, 3, 60);
      x.run(2);
    }, x -> x.did(), 2);
  }

  private static void followerApart() {
    int[][] rows = {{10, 13, 3, 1}, {10, 7, 3, 1}, {10, 14, 3, 0}, {10, 6, 3, 0}, {10, 11, 0, 0}, {10, 9, 0, 0},
        {10, 11, 1, 1}, {10, 9, 1, 1}, {10, 12, 1, 0}, {10, 19, 9, 1}, {10, 1, 9, 1}, {10, 20, 9, 0}, {10, 0, 9, 0},
        {0, 29, 9, 0}, {29, 0, 9, 0}, {0, 9, 9, 1}, {29, 20, 9, 1}};
    for (int[] row : rows) {
      e.answers("3: FOLLOWER on " + row[0] + ", one on " + row[1] + " did, NEAR " + row[2], oneDid(row[0], row[1], row[2]),
          x -> x.told(0, 7), row[3]);
    }
    e.answers("3: it is the SEAT now that counts", Edges.then(oneDid(10, 14, 3), x -> x.move(1, 13)), x -> x.told(0, 7), 1);
  }

  private static void bored(int age, int second, int itch, int want) {
    e.answers("3: BORED of AGE " + age + " in second " + second + " with ITCH " + itch, x -> {
      x.person(BORED, 1, age);
      Edges.runTo(x, second);
      x.set(0, 3, itch);
    }, x -> x.told(0, 7), want);
  }

  private static void boredLetsGo() {
    bored(0, 0, 1, 1);
    bored(0, 0, 0, 0);
    bored(0, 1, 99, 0);
    bored(0, 59, 99, 0);
    bored(0, 60, 1, 1);
    bored(0, 60, 0, 0);
    bored(59, 58, 1, 0);
    bored(59, 59, 1, 1);
    bored(59, 60, 1, 0);
    bored(59, 119, 1, 1);
    bored(60, 0, 1, 1);
    bored(60, 59, 1, 0);
    bored(60, 60, 1, 1);
    bored(60, 61, 1, 0);
    bored(99, 38, 1, 0);
    bored(99, 39, 1, 1);
    bored(99, 99, 1, 1);
    e.answers("3: a COVERED one is not BORED", x -> {
      x.person(COVERED, 1, 0);
      x.set(0, 3, 99);
    }, x -> x.told(0, 7), 0);
  }

  private static void sign(int seat, int second, int want) {
    e.answers("3: SIGN on SEAT " + seat + " in second " + second, x -> {
      x.person(SIGN, seat, 7);
      Edges.runTo(x, second);
      x.set(0, 3, want == 1 ? 0 : 999);
    }, x -> x.told(0, 7), want);
  }

  private static void signLetsGo() {
    sign(0, 0, 1);
    sign(0, 1, 0);
    sign(0, 29, 0);
    sign(0, 30, 1);
    sign(1, 0, 0);
    sign(29, 28, 0);
    sign(29, 29, 1);
    sign(29, 30, 0);
    sign(29, 59, 1);
    sign(29, 60, 0);
  }

  private static void letsGoAheadOfGrowing() {
    Edges.Calls almost = x -> {
      x.person(COUGHER, 0, 0);
      x.set(0, 3, 99);
    };
    e.answers("3: just now, ahead of (1)", almost, x -> x.told(0, 7), 0);
    e.answers("3: behind (1) it does", almost, x -> x.run(1), 1);
    e.answers("3: by LOUD of this second", x -> {
      x.person(KEEPER, 0, 0);
      x.set(0, 3, 100);
      x.loud(1, 9);
    }, x -> x.told(0, 7), 1);
    e.answers("3: not by that of the next one", x -> {
      x.person(KEEPER, 0, 0);
      x.set(0, 3, 100);
      x.loud(0, 9);
    }, x -> x.told(0, 7), 0);
  }

  private static void worth() {
    int[][] rows = {{COUGHER, 0, 0}, {COUGHER, 99, 99}, {KEEPER, 0, 4}, {KEEPER, 99, 103}, {FOLLOWER, 0, 8}, {FOLLOWER, 99, 206},
        {COVERED, 0, 100}, {COVERED, 99, 1}, {BORED, 0, 94}, {BORED, 94, 0}, {BORED, 95, -1}, {BORED, 99, -5}, {SIGN, 99, 8}};
    for (int[] row : rows) {
      e.answers("3: WORTH, KIND " + row[0] + " of AGE " + row[1], x -> x.person(row[0], 8, row[1]), x -> x.told(0, 8), row[2]);
    }
    e.answers("3: WORTH of a SIGN on 0", x -> x.person(SIGN, 0, 99), x -> x.told(0, 8), 0);
    e.answers("3: WORTH of a SIGN on 29", x -> x.person(SIGN, 29, 99), x -> x.told(0, 8), 29);
  }

  // ---- promises 4 to 8

  private static void as() {
    int[] above = {-1, COUGHER, COUGHER, KEEPER, COVERED, COUGHER};
    for (int k = 0; k < 6; k++) {
      int kind = k;
      Edges.Calls one = x -> x.person(kind, 0, 40 + kind);
      for (int asked = 0; asked < 6; asked++) {
        int of = asked;
        boolean is = asked == kind || above[kind] == asked || above[kind] >= 0 && above[above[kind]] == asked;
        if (is) {
          e.answers("4: " + kind + " is of " + asked, one, x -> x.as(0, of), 40 + kind);
        } else {
          e.refuses("4: KIND: " + kind + " is not of " + asked, one, x -> x.as(0, of), KIND);
        }
      }
    }
    e.refuses("4: nobody is there", Edges.NEW, x -> x.as(0, 0), BAD);
    e.range("4: person", Edges::furnish, (x, v) -> x.as(v, 0), Edges.at(0, 50), Edges.at(3, 0));
    e.range("4: kind", x -> x.person(SIGN, 0, 7), (x, v) -> x.as(0, v), Edges.at(0, 7), Edges.at(5, 7));
    e.answers("4: AGE 0", x -> x.person(COUGHER, 0, 0), x -> x.as(0, 0), 0);
    e.answers("4: AGE 99", x -> x.person(COUGHER, 0, 99), x -> x.as(0, 0), 99);
    e.answers("4: the KIND that it turned to", x -> {
      x.person(COUGHER, 0, 9);
      x.turns(0, FOLLOWER);
    }, x -> x.as(0, KEEPER), 9);
    e.refuses("4: KIND: the one that it was", x -> {
      x.person(FOLLOWER, 0, 9);
      x.turns(0, COUGHER);
    }, x -> x.as(0, KEEPER), KIND);
  }

  private static void turns() {
    e.refuses("5: nobody is there", Edges.NEW, x -> x.turns(0, 0), BAD);
    e.range("5: person", Edges.people(10), (x, v) -> x.turns(v, 1), Edges.at(0, 0), Edges.at(9, 0));
    e.range("5: kind", Edges::furnish, (x, v) -> x.turns(2, v), Edges.at(0, 4), Edges.at(5, 4));
    e.answers("5: the KIND that it is of", x -> x.person(5, 0, 0), x -> x.turns(0, 5), 5);
    e.alike("5: the KIND that it is of", Edges.then(Edges::furnish, x -> x.turns(2, 4)), Edges::furnish);
    e.alike("5: there and back", Edges.then(Edges::furnish, x -> {
      x.turns(2, 0);
      x.turns(2, 4);
    }), Edges::furnish);
  }

  private static void set() {
    e.refuses("6: nobody is there", Edges.NEW, x -> x.set(0, 2, 0), BAD);
    e.range("6: person", Edges.people(10), (x, v) -> x.set(v, 2, 5), Edges.at(0, 0), Edges.at(9, 0));
    Edges.Calls one = x -> {
      x.person(0, 8, 11);
      x.set(0, 3, 33);
      x.set(0, 4, 44);
    };
    e.range("6: what", one, (x, v) -> x.set(0, v, 9), Edges.at(2, 11), Edges.at(4, 44));
    e.range("6: AGE", one, (x, v) -> x.set(0, 2, v), Edges.at(0, 11), Edges.at(99, 11));
    e.range("6: ITCH", one, (x, v) -> x.set(0, 3, v), Edges.at(0, 33), Edges.at(999, 33));
    e.range("6: SWEET", one, (x, v) -> x.set(0, 4, v), Edges.at(0, 44), Edges.at(99, 44));
    int[] most = {99, 999, 99};
    for (int what = 2; what <= 4; what++) {
      int changed = what;
      int top = most[what - 2];
      e.answers("6: the most of " + what, Edges.then(one, x -> x.set(0, changed, top)), x -> x.told(0, changed), top);
      e.answers("6: the least of " + what, Edges.then(one, x -> x.set(0, changed, 0)), x -> x.told(0, changed), 0);
    }
    e.range("6: person, among others", Edges::furnish, (x, v) -> x.set(v, 4, 9), Edges.at(0, 0), Edges.at(3, 0));
  }

  private static void move() {
    e.refuses("7: nobody is there", Edges.NEW, x -> x.move(0, 0), BAD);
    e.range("7: SEAT", x -> x.person(0, 15, 1), (x, v) -> x.move(0, v), Edges.at(0, 15), Edges.at(29, 15));
    e.range("7: person", Edges.people(10), (x, v) -> x.move(v, 20), Edges.at(0, 0), Edges.at(9, 9));
    e.refuses("7: NO: another one's", Edges::furnish, x -> x.move(0, 5), NO);
    e.refuses("7: NO: the first one's", Edges::furnish, x -> x.move(3, 4), NO);
    e.answers("7: its own", Edges::furnish, x -> x.move(0, 4), 4);
    e.alike("7: its own", Edges.then(Edges::furnish, x -> x.move(0, 4)), Edges::furnish);
    e.answers("7: one beside another one's", Edges::furnish, x -> x.move(0, 6), 4);
    e.answers("7: one that was left", Edges.then(Edges::furnish, x -> x.move(1, 20)), x -> x.move(0, 5), 4);
    e.refuses("7: NO: where one came to", Edges.then(Edges::furnish, x -> x.move(1, 20)), x -> x.move(0, 20), NO);
    e.refuses("7: BAD ahead of NO", Edges::furnish, x -> x.move(4, 5), BAD);
  }

  private static void onSeat() {
    e.range("8: SEAT", x -> {
      x.person(0, 29, 0);
      x.person(0, 0, 0);
    }, (x, v) -> x.onSeat(v), Edges.at(0, 1), Edges.at(29, 0));
    e.refuses("8: NONE: nobody is there", Edges.NEW, x -> x.onSeat(0), NONE);
    e.refuses("8: NONE: nobody is on it", Edges::furnish, x -> x.onSeat(28), NONE);
    e.answers("8: the tenth", Edges.people(10), x -> x.onSeat(9), 9);
    e.answers("8: NONE: behind the tenth", Edges.people(10), x -> x.onSeat(10), NONE);
    e.answers("8: NONE: it was left", Edges.then(Edges.people(3), x -> x.move(1, 9)), x -> x.onSeat(1), NONE);
    e.answers("8: who came to it", Edges.then(Edges.people(3), x -> x.move(1, 9)), x -> x.onSeat(9), 1);
    e.answers("8: NONE: not there in THE IMAGE", x -> {
      x.keep();
      x.person(0, 3, 3);
      x.back();
    }, x -> x.onSeat(3), NONE);
  }

  // ---- promise 9

  private static void dealRange() {
    e.range("9: n", Edges.NEW, (x, v) -> x.deal(v), Edges.at(1, 1), Edges.at(10, 10));
    e.range("9: n, among others", Edges::furnish, (x, v) -> x.deal(v), Edges.at(1, 1), Edges.at(10, 6));
    e.range("9: n, no room", Edges.people(10), (x, v) -> x.deal(v), Edges.at(1, 0), Edges.at(10, 0));
  }

  private static int z(int z, int draws) {
    int drawn = z;
    for (int k = 0; k < draws; k++) {
      drawn = drawn * 1103515245 + 12345;
    }
    return drawn;
  }

  private static void dealRoom() {
    e.answers("9: room for just so many", Edges.people(7), x -> x.deal(3), 3);
    e.answers("9: room for one fewer", Edges.people(8), x -> x.deal(3), 2);
    e.answers("9: room for one", Edges.people(9), x -> x.deal(10), 1);
    e.answers("9: no draws for others", Edges.then(Edges.people(9), x -> x.deal(10)), x -> x.count(10), z(1, 3));
    e.alike("9: without room nothing changes", Edges.then(Edges.people(10), x -> x.deal(10)), Edges.people(10));
    e.answers("9: three draws for each of ten", x -> x.deal(10), x -> x.count(10), z(1, 30));
    e.answers("9: not more than ten", x -> {
      x.deal(10);
      x.deal(10);
    }, x -> x.count(0), 10);
    e.refuses("9: FULL then", x -> x.deal(10), x -> x.person(0, freeSeat(x), 1), FULL);
  }

  private static int freeSeat(HallCoughs x) {
    int seat = 0;
    while (x.onSeat(seat) != NONE) {
      seat++;
    }
    return seat;
  }

  /** A z with which the first one that is drawn wants just this SEAT. */
  private static int zFor(int seat) {
    int z = 0;
    while ((z(z, 3) >>> 8) % 30 != seat) {
      z++;
    }
    return z;
  }

  private static void dealt(String sentence, int wants, int want, int... taken) {
    e.answers("9: " + sentence, x -> {
      for (int seat : taken) {
        x.person(0, seat, 0);
      }
      x.seed(zFor(wants));
      x.deal(1);
    }, x -> x.told(taken.length, 1), want);
  }

  private static void dealSeats() {
    dealt("a free SEAT", 29, 29);
    dealt("a free SEAT beside others", 12, 12, 11, 13);
    dealt("one that is somebody's: the next", 12, 13, 12);
    dealt("two that are somebody's", 12, 14, 12, 13);
    dealt("the last but one", 28, 29, 28);
    dealt("the last: round", 29, 0, 29);
    dealt("the last two: round", 28, 0, 28, 29);
    dealt("round, and on", 29, 1, 29, 0);
    dealt("nine in a row", 25, 4, 25, 26, 27, 28, 29, 0, 1, 2, 3);
    dealt("SEAT 0 is not the last one's next", 0, 1, 0);
  }

  private static void dealDraws() {
    for (int z : new int[] {0, 1, -1, MAX, MIN, 2, 123456789, -987654321}) {
      Edges.Calls dealt = x -> {
        x.seed(z);
        x.deal(1);
      };
      e.answers("9: KIND from z " + z, dealt, x -> x.told(0, 0), (z(z, 1) >>> 8) % 6);
      e.answers("9: AGE from z " + z, dealt, x -> x.told(0, 2), (z(z, 2) >>> 8) % 100);
      e.answers("9: SEAT from z " + z, dealt, x -> x.told(0, 1), (z(z, 3) >>> 8) % 30);
      e.answers("9: z wraps, from " + z, dealt, x -> x.count(10), z(z, 3));
    }
  }

  // ---- promise 10

  private static void seed() {
    for (int z : new int[] {MIN, -1, 0, 1, MAX, BAD, NONE}) {
      e.answers("10: z was 1 ahead of " + z, Edges.NEW, x -> x.seed(z), 1);
      e.answers("10: z is " + z, x -> x.seed(z), x -> x.seed(8), z);
    }
  }
}
