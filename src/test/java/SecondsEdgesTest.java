/** Boundaries of promises 15 to 25: seconds. */
public final class SecondsEdgesTest {
  private static final int BAD = Edges.BAD, NONE = Edges.NONE, NOTHING = Edges.NOTHING, MIN = Edges.MIN;
  private static final int COUGHER = 0, KEEPER = 1, FOLLOWER = 3, BORED = 4, SIGN = 5;
  private static final Edges e = new Edges();

  public static void main(String[] args) {
    runRange();
    itchInASecond();
    sweetInASecond();
    coughInASecond();
    harmInASecond();
    harmHeld();
    runUpToTheLast();
    did();
    behindRanges();
    behindNothing();
    first();
    rest();
    restBySeconds();
    change();
    changeBySeconds();
    sweet();
    sweetBySeconds();
    setOffRanges();
    setOffBySeconds();
    loudest();
    toldByRanges();
    toldByPlaces();
    fine();
    thoughtBeyondTheLast();
    e.end();
  }

  // ---- promise 15

  private static void runRange() {
    e.range("15: n, nobody", Edges.NEW, (x, v) -> x.run(v), Edges.at(1, 0), Edges.at(200, 0));
    e.range("15: n, one that coughs each 25", Edges.people(1), (x, v) -> x.run(v), Edges.at(1, 0), Edges.at(200, 8));
    for (int n : new int[] {1, 199, 200}) {
      e.answers("15: THE SECOND behind " + n, x -> x.run(n), x -> x.count(2), n);
    }
    for (int v : new int[] {0, 201}) {
      e.refuses("15: n, among others: " + v, Edges::furnish, x -> x.run(v), BAD);
    }
    e.answers("15: one too few for a cough", Edges.people(1), x -> x.run(24), 0);
    e.answers("15: just enough for one", Edges.people(1), x -> x.run(25), 1);
    e.answers("15: not yet the eighth", Edges.people(1), x -> x.run(199), 7);
    e.answers("15: coughs in them alone", Edges.then(Edges.people(1), x -> x.run(25)), x -> x.run(25), 1);
  }

  /** A SIGN does not cough by its ITCH, so that this can go up. */
  private static void itchBehind(int itch, int want) {
    e.answers("15: ITCH " + itch + " and 4 more, 999 at most", x -> {
      x.person(SIGN, 29, 0);
      x.set(0, 3, itch);
      x.run(1);
    }, x -> x.told(0, 3), want);
  }

  private static void itchInASecond() {
    itchBehind(0, 4);
    itchBehind(994, 998);
    itchBehind(995, 999);
    itchBehind(996, 999);
    itchBehind(999, 999);
    e.answers("15: ITCH stays at 999", x -> {
      x.person(SIGN, 29, 99);
      Due.tellText(x, "itch 99");
      x.run(29);
    }, x -> x.told(0, 3), 999);
  }

  private static void sweetInASecond() {
    int[][] rows = {{0, 1, 0, 4}, {1, 1, 0, 0}, {1, 2, 0, 4}, {2, 1, 1, 0}, {2, 2, 0, 0}, {2, 3, 0, 4}, {99, 1, 98, 0}, {99, 99, 0, 0},
        {99, 100, 0, 4}};
    for (int[] row : rows) {
      Edges.Calls passed = x -> {
        x.person(COUGHER, 0, 0);
        x.set(0, 4, row[0]);
        x.run(row[1]);
      };
      e.answers("15: SWEET " + row[0] + " behind " + row[1], passed, x -> x.told(0, 4), row[2]);
      e.answers("15: ITCH with SWEET " + row[0] + " behind " + row[1], passed, x -> x.told(0, 3), row[3]);
    }
    e.answers("15: a SWEET lets one cough", x -> {
      x.person(COUGHER, 0, 0);
      x.set(0, 3, 100);
      x.set(0, 4, 1);
    }, x -> x.run(1), 1);
    e.answers("15: but ITCH does not come to 100 with it", x -> {
      x.person(COUGHER, 0, 0);
      x.set(0, 3, 99);
      x.set(0, 4, 1);
    }, x -> x.run(1), 0);
  }

  private static void coughInASecond() {
    for (int itch : new int[] {95, 96}) {
      Edges.Calls passed = x -> {
        x.person(COUGHER, 0, 0);
        x.set(0, 3, itch);
        x.run(1);
      };
      e.answers("15: COUGHS with ITCH " + itch + " and 4 more", passed, x -> x.told(0, 5), itch == 96 ? 1 : 0);
      e.answers("15: ITCH behind it, from " + itch, passed, x -> x.told(0, 3), itch == 96 ? 0 : 99);
      e.answers("15: HARM behind it, from " + itch, passed, x -> x.count(4), itch == 96 ? 60 : 0);
    }
    e.answers("15: all ten at once", allCough(10, 0), x -> x.run(1), 10);
    e.answers("15: by the SECOND ahead of (4)", x -> x.person(SIGN, 0, 0), x -> x.run(1), 1);
    e.answers("15: not by the one behind it", x -> x.person(SIGN, 1, 0), x -> x.run(1), 0);
    e.answers("15: BORED of AGE 60 in second 0, with its first ITCH", x -> x.person(BORED, 0, 60), x -> x.run(1), 1);
    e.answers("15: BORED, but with a SWEET and no ITCH", x -> {
      x.person(BORED, 0, 60);
      x.set(0, 4, 1);
    }, x -> x.run(1), 0);
  }

  /** So many that cough in the next SECOND, with this LOUD. */
  private static Edges.Calls allCough(int many, int loud) {
    return x -> {
      for (int p = 0; p < many; p++) {
        x.person(COUGHER, p, 0);
        x.set(p, 3, 999);
      }
      x.loud(0, loud);
    };
  }

  private static void harmInASecond() {
    int[][] rows = {{1, 0, 60}, {1, 59, 1}, {1, 60, 0}, {1, 61, 0}, {1, 99, 0}, {2, 58, 4}, {2, 59, 2}, {10, 0, 600}, {10, 59, 10},
        {10, 60, 0}, {10, 99, 0}, {0, 0, 0}, {0, 99, 0}};
    for (int[] row : rows) {
      e.answers("15: HARM of " + row[0] + " with LOUD " + row[1], Edges.then(allCough(row[0], row[1]), x -> x.run(1)),
          x -> x.count(4), row[2]);
    }
    e.answers("15: HARM never goes down", Edges.then(allCough(1, 0), x -> {
      x.run(1);
      x.loud(1, 99);
      x.set(0, 3, 999);
      x.run(1);
    }), x -> x.count(4), 60);
  }

  private static void harmBy(String harm, int coughing, int want) {
    e.answers("15: HARM by harm " + harm + ", " + coughing + " cough",
        Edges.then(allCough(coughing, 7), x -> {
          x.person(KEEPER, 20, 0);
          Due.tellText(x, "harm " + harm);
          x.run(1);
        }), x -> x.count(4), want);
  }

  private static void harmHeld() {
    harmBy("0-2048*2048*512", 1, 0);
    harmBy("0-1", 1, 0);
    harmBy("0", 1, 0);
    harmBy("1", 1, 1);
    harmBy("9998", 1, 9998);
    harmBy("9999", 1, 9999);
    harmBy("9999+1", 1, 9999);
    harmBy("2048*2048*512-1", 1, 9999);
    harmBy("9999", 0, 0);
    harmBy("9999", 2, 9999);
    harmBy("n*100+l", 9, 907);
    harmBy("n*100+l", 1, 107);
    e.answers("15: HARM is held each SECOND, not in all", Edges.then(allCough(1, 0), x -> {
      Due.tellText(x, "harm 9999");
      x.run(1);
      x.set(0, 3, 999);
      x.run(1);
    }), x -> x.count(4), 19998);
  }

  /** Second 99998, the last one that passes, has the rest 8 by 30. */
  private static Edges.Calls signNear(int seat, int second) {
    return x -> {
      x.person(SIGN, seat, 0);
      Edges.runTo(x, second);
    };
  }

  private static void runUpToTheLast() {
    int[][] rows = {{99798, 200, 99998}, {99799, 200, 99999}, {99800, 200, 99999}, {99998, 1, 99999}, {99998, 2, 99999},
        {99999, 1, 99999}, {99999, 200, 99999}};
    for (int[] row : rows) {
      e.answers("15: " + row[1] + " from " + row[0] + ", no more than up to 99999", x -> {
        Edges.runTo(x, row[0]);
        x.run(row[1]);
      }, x -> x.count(2), row[2]);
    }
    e.answers("15: the last one passes", signNear(8, 99998), x -> x.run(200), 1);
    e.answers("15: one behind it does not", signNear(9, 99998), x -> x.run(200), 0);
    e.answers("15: none passes any more", signNear(9, 99999), x -> x.run(1), 0);
    e.answers("15: ITCH stays then", x -> {
      x.person(SIGN, 20, 0);
      Edges.runTo(x, 99999);
      x.set(0, 3, 77);
      x.run(200);
    }, x -> x.told(0, 3), 77);
    e.answers("15: a SWEET stays then", x -> {
      x.person(SIGN, 20, 0);
      Edges.runTo(x, 99999);
      x.set(0, 4, 77);
      x.run(200);
    }, x -> x.told(0, 4), 77);
    e.answers("16: DID stays then", signNear(8, 99999), x -> x.run(1) + x.did(), 1);
    e.refuses("15: BAD there too", Edges.NEW, x -> x.run(0), BAD);
    e.answers("15: BAD in the last second, below", signNear(8, 99999), x -> x.run(0), BAD);
    e.answers("15: BAD in the last second, above", signNear(8, 99999), x -> x.run(201), BAD);
    mostHarm();
  }

  /** Two that cough in turn, so that one does in each second, with the most HARM. */
  private static void mostHarm() {
    Edges.Calls most = x -> {
      x.person(COUGHER, 0, 0);
      x.person(COUGHER, 1, 0);
      x.set(1, 3, 1);
      Due.tellText(x, "itch 99");
      Due.tellText(x, "harm 9999");
      Edges.runTo(x, 99999);
    };
    e.answers("15: the most HARM there can be", most, x -> x.count(4), 99999 * 9999);
    e.answers("15: the most COUGHS of two in turn", most, x -> x.count(3), 99999);
    e.answers("17: and more in thought", most, x -> x.behind(200, 1), 100199 * 9999);
    e.answers("19: the least of HARMS that are so great", most, x -> x.rest(60), 0);
    e.answers("21: the least of HARMS that are so great", most, x -> x.sweet(60), 0);
  }

  // ---- promises 16 to 18

  private static void did() {
    e.answers("16: nobody is there", x -> x.run(9), x -> x.did(), 0);
    e.answers("16: 0 alone", Edges.then(allCough(1, 0), x -> x.run(1)), x -> x.did(), 1);
    e.answers("16: all ten", Edges.then(allCough(10, 0), x -> x.run(1)), x -> x.did(), 1023);
    e.answers("16: 9 alone", Edges.then(Edges.people(10), x -> {
      x.set(9, 3, 999);
      x.run(1);
    }), x -> x.did(), 512);
    e.answers("16: the second ahead alone", Edges.then(allCough(10, 0), x -> x.run(2)), x -> x.did(), 0);
    e.answers("16: the last one of several", x -> {
      x.person(SIGN, 4, 0);
      x.run(5);
    }, x -> x.did(), 1);
    e.answers("16: ahead of the last one of several", x -> {
      x.person(SIGN, 4, 0);
      x.run(6);
    }, x -> x.did(), 0);
    e.answers("16: as in THE IMAGE", Edges.then(allCough(2, 0), x -> {
      x.run(1);
      x.keep();
      x.run(1);
      x.back();
    }), x -> x.did(), 3);
  }

  private static void behindRanges() {
    e.range("17: n", Edges.people(1), (x, v) -> x.behind(v, 0), Edges.at(0, 0), Edges.at(200, 8));
    e.answers("17: one fewer", Edges.people(1), x -> x.behind(199, 0), 7);
    e.range("17: what", x -> {
      x.person(COUGHER, 0, 0);
      x.set(0, 3, 96);
    }, (x, v) -> x.behind(2, v), Edges.at(0, 1), Edges.at(2, 4));
    e.answers("17: HARM is between them", allCough(1, 0), x -> x.behind(2, 1), 60);
    for (int v : new int[] {-1, 201}) {
      e.refuses("17: n, among others: " + v, Edges::furnish, x -> x.behind(v, 1), BAD);
    }
    for (int v : new int[] {-1, 3}) {
      e.refuses("17: what, among others: " + v, Edges::furnish, x -> x.behind(1, v), BAD);
    }
    for (int what = 0; what <= 2; what++) {
      int asked = what;
      e.alike("17: only thought, " + what, Edges.then(Edges::furnish, x -> x.behind(200, asked)), Edges::furnish);
    }
  }

  private static void behindNothing() {
    for (int n : new int[] {0, 1, 200}) {
      for (int what = 0; what <= 2; what++) {
        int asked = what;
        e.answers("17: 0 without people, what " + what + " behind " + n, Edges.NEW, x -> x.behind(n, asked), 0);
      }
    }
    Edges.Calls coughed = Edges.then(allCough(2, 0), x -> x.run(1));
    e.answers("17: behind 0 all COUGHS so far", coughed, x -> x.behind(0, 0), 2);
    e.answers("17: behind 0 all HARM so far", coughed, x -> x.behind(0, 1), 120);
    e.answers("17: behind 0 ITCH now", coughed, x -> x.behind(0, 2), 0);
    for (int p : new int[] {0, 9}) {
      e.answers("17: the greatest is that of " + p, Edges.then(Edges.people(10), x -> x.set(p, 3, 50)), x -> x.behind(1, 2), 54);
    }
    e.answers("17: the greatest is 999 at most", x -> {
      x.person(SIGN, 29, 99);
      x.set(0, 3, 990);
    }, x -> x.behind(20, 2), 999);
  }

  /** A KEEPER that is never in a rest holds it until ITCH is 200: by 1 each, in just as many SECONDS as are missing. */
  private static Edges.Calls keepsTo200(int itch, int sweet) {
    return x -> {
      x.person(KEEPER, 0, 0);
      x.bars(1);
      x.loud(0, 1);
      x.set(0, 3, itch);
      x.set(0, 4, sweet);
      Due.tellText(x, "itch 1");
    };
  }

  private static void first() {
    e.answers("18: NONE: nobody is there", Edges.NEW, x -> x.first(), NONE);
    e.answers("18: at once", keepsTo200(199, 0), x -> x.first(), 1);
    e.answers("18: behind two", keepsTo200(198, 0), x -> x.first(), 2);
    e.answers("18: behind 199", keepsTo200(1, 0), x -> x.first(), 199);
    e.answers("18: behind 200", keepsTo200(0, 0), x -> x.first(), 200);
    e.refuses("18: NONE: behind 201 is not by then", keepsTo200(0, 1), x -> x.first(), NONE);
    e.answers("18: behind 201 comes nearer", Edges.then(keepsTo200(0, 1), x -> x.run(1)), x -> x.first(), 200);
    e.answers("18: from now on, not what was", x -> {
      x.person(SIGN, 0, 0);
      x.run(1);
    }, x -> x.first(), 30);
    e.alike("18: only thought", Edges.then(Edges::furnish, x -> x.first()), Edges::furnish);
  }

  // ---- promises 19 to 21

  private static void rest() {
    e.range("19: n", Edges.NEW, (x, v) -> x.rest(v), Edges.at(1, 0), Edges.at(60, 0));
    for (int v : new int[] {0, 61}) {
      e.refuses("19: n, among others: " + v, Edges::furnish, x -> x.rest(v), BAD);
    }
    e.answers("19: one BAR", Edges.then(allCough(1, 50), x -> x.bars(1)), x -> x.rest(1), 0);
    e.answers("19: all alike: the least", Edges.then(Edges.people(2), x -> x.bars(24)), x -> x.rest(60), 0);
    e.answers("19: all but the first alike: the least of them", allCough(1, 50), x -> x.rest(1), 1);
    e.answers("19: the BAR that would be worse is LOUD 0 already", allCough(1, 0), x -> x.rest(1), 0);
    e.answers("19: LOUD 1 is worse than LOUD 0", allCough(1, 1), x -> x.rest(1), 1);
    e.alike("19: only thought", Edges.then(Edges::furnish, x -> x.rest(60)), Edges::furnish);
  }

  private static void restBySeconds() {
    Edges.Calls lastBar = x -> { // by this law a rest in BAR 23 takes away what the cough in the 24th SECOND harms
      x.person(SIGN, 23, 0);
      x.bars(24);
      x.loud(23, 50);
      Due.tellText(x, "harm l");
    };
    e.answers("19: the last BAR of 24", lastBar, x -> x.rest(24), 23);
    e.answers("19: it has not come yet", lastBar, x -> x.rest(23), 0);
    Edges.Calls inTheSixtieth = x -> {
      x.person(SIGN, 29, 0);
      x.run(30); // its cough ahead is done; the next one is the 30th from now on, and one more the 60th
      x.bars(24);
      x.loud(89 % 24, 50);
      Due.tellText(x, "harm l");
    };
    e.answers("19: the 60th SECOND counts", inTheSixtieth, x -> x.rest(60), 89 % 24);
    e.answers("19: it does not in 59", inTheSixtieth, x -> x.rest(59), 0);
    e.answers("19: one SECOND", Edges.then(allCough(1, 50), Edges.law("harm l")), x -> x.rest(1), 0);
    e.answers("19: one SECOND, another BAR", Edges.then(allCough(1, 0), x -> {
      x.run(1);
      x.loud(1, 50);
      x.set(0, 3, 999);
      Due.tellText(x, "harm l");
    }), x -> x.rest(1), 1);
  }

  private static void change() {
    e.range("20: n", Edges.people(2), (x, v) -> x.change(v), Edges.at(1, 1), Edges.at(40, 1));
    for (int v : new int[] {0, 41}) {
      e.refuses("20: n, among others: " + v, Edges::furnish, x -> x.change(v), BAD);
      e.refuses("20: BAD ahead of NONE: " + v, Edges.NEW, x -> x.change(v), BAD);
    }
    e.answers("20: NONE: nobody", Edges.NEW, x -> x.change(1), NONE);
    e.answers("20: NONE: one", Edges.people(1), x -> x.change(40), NONE);
    e.answers("20: two", Edges.people(2), x -> x.change(40), 1);
    e.answers("20: of several the first", Edges.people(10), x -> x.change(20), 1);
    Edges.Calls lastPair = x -> { // all but 9 have SEATS on which a SIGN coughs within 10
      for (int p = 0; p < 8; p++) {
        x.person(COUGHER, p, 0);
      }
      x.person(SIGN, 8, 0);
      x.person(COUGHER, 20, 0);
    };
    e.answers("20: the last pair", lastPair, x -> x.change(10), 809);
    e.answers("20: 0 with 9 is the first", Edges.then(lastPair, x -> {
      x.turns(8, COUGHER);
      x.turns(0, SIGN);
    }), x -> x.change(10), 9);
    e.alike("20: only thought", Edges.then(Edges::furnish, x -> x.change(40)), Edges::furnish);
  }

  private static void changeBySeconds() {
    Edges.Calls threeSeats = x -> { // a SIGN coughs on 5 in 5 and 35, on 9 in 9 and 39, on 10 in 10
      x.person(SIGN, 5, 0);
      x.person(COUGHER, 9, 0);
      x.person(COUGHER, 10, 0);
    };
    e.answers("20: the 40th SECOND counts", threeSeats, x -> x.change(40), 2);
    e.answers("20: it does not in 39", threeSeats, x -> x.change(39), 1);
    Edges.Calls atOnce = x -> {
      x.person(COUGHER, 9, 0);
      x.person(COUGHER, 10, 0);
      x.person(SIGN, 0, 0);
    };
    e.answers("20: one SECOND", atOnce, x -> x.change(1), 2);
  }

  private static void sweet() {
    e.range("21: n", Edges.people(1), (x, v) -> x.sweet(v), Edges.at(1, 0), Edges.at(60, 0));
    for (int v : new int[] {0, 61}) {
      e.refuses("21: n, among others: " + v, Edges::furnish, x -> x.sweet(v), BAD);
      e.refuses("21: BAD ahead of NONE: " + v, Edges.NEW, x -> x.sweet(v), BAD);
    }
    e.answers("21: NONE: nobody", Edges.NEW, x -> x.sweet(1), NONE);
    e.answers("21: one", Edges.people(1), x -> x.sweet(1), 0);
    e.answers("21: of several the least", Edges.people(10), x -> x.sweet(60), 0);
    e.answers("21: the tenth", Edges.then(Edges.people(10), x -> x.set(9, 3, 99)), x -> x.sweet(1), 9);
    e.alike("21: only thought", Edges.then(Edges::furnish, x -> x.sweet(60)), Edges::furnish);
  }

  /** Two whose ITCH is 1 more each second; the second one comes to 100 first. */
  private static Edges.Calls itches(int itch) {
    return x -> {
      x.person(COUGHER, 0, 0);
      x.person(COUGHER, 1, 0);
      x.set(1, 3, itch);
      Due.tellText(x, "itch 1");
    };
  }

  private static void sweetBySeconds() {
    e.answers("21: the 60th SECOND counts", itches(40), x -> x.sweet(60), 1);
    e.answers("21: it does not in 59", itches(40), x -> x.sweet(59), 0);
    e.answers("21: a SWEET of 40 puts the cough in the 20th off behind the 59th", itches(80), x -> x.sweet(59), 1);
    e.answers("21: but not behind the 60th", itches(80), x -> x.sweet(60), 0);
    e.answers("21: one SECOND", itches(99), x -> x.sweet(1), 1);
    e.answers("21: one that has a SWEET of 99 gets 40", Edges.then(itches(99), x -> x.set(1, 4, 99)), x -> x.sweet(41), 0);
  }

  // ---- promises 22, 23

  private static Edges.Calls signs(int p, int q) {
    return x -> {
      x.person(SIGN, p, 0);
      x.person(SIGN, q, 0);
    };
  }

  private static void setOffRanges() {
    e.range("22: n", signs(19, 18), (x, v) -> x.setOff(0, 1, v), Edges.at(1, 0), Edges.at(200, 7));
    e.range("22: p", signs(2, 3), (x, v) -> x.setOff(v, v == 0 ? 1 : 0, 9), Edges.at(0, 0), Edges.at(1, 1));
    e.range("22: q", signs(2, 3), (x, v) -> x.setOff(v == 0 ? 1 : 0, v, 9), Edges.at(0, 1), Edges.at(1, 0));
    e.refuses("22: BAD: nobody is there", Edges.NEW, x -> x.setOff(0, 1, 1), BAD);
    e.refuses("22: BAD: one is there", Edges.people(1), x -> x.setOff(0, 1, 1), BAD);
    e.refuses("22: BAD: one by itself, the first", Edges::furnish, x -> x.setOff(0, 0, 1), BAD);
    e.refuses("22: BAD: one by itself, the last", Edges::furnish, x -> x.setOff(3, 3, 200), BAD);
    for (int v : new int[] {-1, 4}) {
      e.refuses("22: p, among others: " + v, Edges::furnish, x -> x.setOff(v, 0, 1), BAD);
      e.refuses("22: q, among others: " + v, Edges::furnish, x -> x.setOff(0, v, 1), BAD);
      e.refuses("22: both: " + v, Edges::furnish, x -> x.setOff(v, v, 1), BAD);
    }
    for (int v : new int[] {0, 201}) {
      e.refuses("22: n, among others: " + v, Edges::furnish, x -> x.setOff(0, 1, v), BAD);
    }
    e.alike("22: only thought", Edges.then(Edges::furnish, x -> x.setOff(0, 1, 200)), Edges::furnish);
  }

  private static void setOffBySeconds() {
    e.answers("22: p in the 200th", signs(19, 18), x -> x.setOff(0, 1, 200), 7);
    e.answers("22: not in 199", signs(19, 18), x -> x.setOff(0, 1, 199), 6);
    e.answers("22: not the same second", signs(19, 20), x -> x.setOff(0, 1, 200), 0);
    e.answers("22: not two seconds ahead", signs(19, 17), x -> x.setOff(0, 1, 200), 0);
    e.answers("22: round by 30", signs(0, 29), x -> x.setOff(0, 1, 31), 1);
    e.answers("22: not yet round", signs(0, 29), x -> x.setOff(0, 1, 30), 0);
    Edges.Calls qDid = Edges.then(signs(1, 0), x -> x.run(1));
    e.answers("22: ahead of the first is DID", qDid, x -> x.setOff(0, 1, 1), 1);
    e.answers("22: not the other way", qDid, x -> x.setOff(1, 0, 1), 0);
    e.answers("22: nobody did at first", signs(0, 29), x -> x.setOff(0, 1, 1), 0);
  }

  private static void loudest() {
    e.answers("23: NONE: nobody", Edges.NEW, x -> x.loudest(), NONE);
    e.answers("23: one without COUGHS", Edges.people(1), x -> x.loudest(), 0);
    e.answers("23: ten without COUGHS: the least", Edges.people(10), x -> x.loudest(), 0);
    e.answers("23: ten with one each: the least", Edges.then(allCough(10, 0), x -> x.run(1)), x -> x.loudest(), 0);
    for (int p : new int[] {0, 1, 9}) {
      e.answers("23: one more by " + p, Edges.then(allCough(10, 0), x -> {
        x.run(1);
        x.set(p, 3, 999);
        x.run(1);
      }), x -> x.loudest(), p);
    }
    e.answers("23: two with the most", Edges.then(Edges.people(10), x -> {
      x.set(7, 3, 999);
      x.set(8, 3, 999);
      x.run(1);
    }), x -> x.loudest(), 7);
  }

  // ---- promise 24

  private static void toldByRanges() {
    Edges.Calls allSheets = x -> { // of AGE 7, so that no BORED one would cough in second 0
      x.person(COUGHER, 0, 7);
      x.person(COUGHER, 1, 7);
      for (int sheet = 0; sheet < 4; sheet++) {
        x.sheet(sheet, 0, 3);
        x.mark(sheet, 0, 1);
      }
    };
    e.range("24: sheet", allSheets, (x, v) -> x.toldBy(v, 0, 0), Edges.at(0, SIGN), Edges.at(3, SIGN));
    e.range("24: p", allSheets, (x, v) -> x.toldBy(0, v, 0), Edges.at(0, SIGN), Edges.at(1, COUGHER));
    e.range("24: what", allSheets, (x, v) -> x.toldBy(0, 0, v), Edges.at(0, SIGN), Edges.at(1, 0));
    e.refuses("24: nobody is there", x -> x.sheet(0, 0, 1), x -> x.toldBy(0, 0, 0), BAD);
    e.refuses("24: NOTHING", Edges::furnish, x -> x.toldBy(3, 0, 0), NOTHING);
    e.refuses("24: BAD ahead of NOTHING: p", Edges::furnish, x -> x.toldBy(3, 4, 0), BAD);
    e.refuses("24: BAD ahead of NOTHING: what", Edges::furnish, x -> x.toldBy(3, 0, 2), BAD);
    e.refuses("24: NOTHING: it is MISSING again", Edges.then(allSheets, x -> x.sheet(1, -1, 3)), x -> x.toldBy(1, 0, 1), NOTHING);
    e.alike("24: only thought", Edges.then(Edges::furnish, x -> x.toldBy(0, 1, 0)), Edges::furnish);
  }

  private static void toldBy(String sentence, Edges.Calls upTo, int kind, int otherwise) {
    e.answers("24: " + sentence + ": KIND", upTo, x -> x.toldBy(0, 0, 0), kind);
    e.answers("24: " + sentence + ": otherwise", upTo, x -> x.toldBy(0, 0, 1), otherwise);
  }

  /** One on a SEAT, whose throat never itches: only as a SIGN it coughs, in the second of its SEAT. */
  private static Edges.Calls calm(int seat, int sort, int places) {
    return x -> {
      x.person(COUGHER, seat, 7);
      Due.tellText(x, "itch 0");
      x.sheet(0, sort, places);
    };
  }

  private static void toldByPlaces() {
    toldBy("no place at all", calm(0, 0, 0), 0, 0);
    toldBy("one place, not told", calm(0, 0, 1), 0, 0);
    toldBy("one place, told", Edges.then(calm(0, 0, 1), x -> x.mark(0, 0, 1)), SIGN, 0);
    toldBy("one place, told by a number below 0", Edges.then(calm(0, 0, 1), x -> x.mark(0, 0, -1)), SIGN, 0);
    toldBy("a short whose lowest bits are 0", Edges.then(calm(0, 0, 1), x -> x.mark(0, 0, 65536)), 0, 0);
    toldBy("the 24th place", Edges.then(calm(23, 0, 24), x -> x.mark(0, 23, 1)), SIGN, 0);
    toldBy("the 24th SECOND, told one place ahead", Edges.then(calm(23, 0, 24), x -> x.mark(0, 22, 1)), 0, 1);
    toldBy("the 25th SECOND is not told", Edges.then(calm(24, 0, 24), x -> x.mark(0, 23, 1)), 0, 1);
    toldBy("NO NUMBER where a SIGN coughs", Edges.then(calm(1, 1, 2), x -> x.mark(0, 1, NONE)), 0, 0);
    toldBy("NO NUMBER there, 0 elsewhere told", Edges.then(calm(1, 1, 3), x -> {
      x.mark(0, 1, NONE);
      x.mark(0, 2, 5);
    }), 0, 1);
    toldBy("a float 0 is a number", Edges.then(calm(1, 1, 2), x -> x.mark(0, 1, 0)), 0, 0);
    toldBy("all 24 otherwise", Edges.then(calm(29, 0, 24), x -> {
      for (int place = 0; place < 24; place++) {
        x.mark(0, place, 1);
      }
    }), 0, 24);
    toldBy("from now on", Edges.then(calm(9, 0, 3), x -> {
      x.run(8);
      x.mark(0, 1, 1);
    }), SIGN, 0);
    toldBy("several: the least", x -> {
      x.person(SIGN, 9, 7);
      x.set(0, 3, 999);
      x.sheet(0, 0, 1);
      x.mark(0, 0, 1);
    }, 0, 0);
    toldBy("but for the fewest, not for none", x -> {
      x.person(COUGHER, 2, 7);
      Due.tellText(x, "itch 0");
      x.sheet(0, 0, 5);
      x.mark(0, 2, 1);
      x.mark(0, 4, 1);
    }, SIGN, 1);
    toldBy("a FOLLOWER by DID", x -> {
      x.bars(1);
      x.loud(0, 1);
      x.person(COUGHER, 20, 30);
      x.person(COUGHER, 21, 30);
      Due.tellText(x, "itch 0");
      x.set(1, 3, 999);
      x.run(1);
      x.set(0, 3, 50);
      x.sheet(0, 0, 1);
      x.mark(0, 0, 1);
    }, FOLLOWER, 0);
  }

  // ---- promise 25

  private static void fine() {
    e.refuses("25: nobody is there", Edges.NEW, x -> x.fine(0), BAD);
    e.range("25: person", Edges.then(allCough(10, 0), x -> x.run(1)), (x, v) -> x.fine(v), Edges.at(0, 1), Edges.at(9, 1));
    e.range("25: person, among others", Edges.then(Edges::furnish, Edges.law("fine c*0+7")), (x, v) -> x.fine(v),
        Edges.at(0, 7), Edges.at(3, 7));
    e.answers("25: no COUGHS", Edges.people(1), x -> x.fine(0), 0);
    e.answers("25: not held below", Edges.then(Edges.people(1), Edges.law("fine 0-2048*2048*512")), x -> x.fine(0), MIN);
    e.answers("25: not held above", Edges.then(Edges.people(1), Edges.law("fine 9999*9999")), x -> x.fine(0), 99980001);
  }

  // ---- all that is only thought, in the last second

  private static void thoughtBeyondTheLast() {
    Edges.Calls signNine = signNear(9, Edges.LAST_SECOND); // it would cough in the next second
    e.answers("17: beyond 99999 in thought", signNine, x -> x.behind(1, 0) - x.count(3), 1);
    e.answers("18: beyond 99999 in thought", signNine, x -> x.first(), 1);
    e.answers("18: 30 beyond 99999 in thought", signNear(8, Edges.LAST_SECOND), x -> x.first(), 30);
    e.answers("17: THE SECOND stays", signNine, x -> x.behind(200, 0) * 0 + x.count(2), 99999);
    e.answers("19: beyond 99999 in thought", x -> {
      x.bars(2);
      x.loud(1, 50);
      x.person(SIGN, 9, 0);
      Due.tellText(x, "harm l");
      Edges.runTo(x, Edges.LAST_SECOND);
    }, x -> x.rest(1), 1);
    e.answers("20: beyond 99999 in thought", x -> {
      x.person(COUGHER, 20, 0);
      x.person(COUGHER, 21, 0);
      x.person(SIGN, 9, 0);
      Edges.runTo(x, Edges.LAST_SECOND);
    }, x -> x.change(1), 2);
    e.answers("21: beyond 99999 in thought", x -> {
      Edges.people(2).on(x);
      Edges.runTo(x, Edges.LAST_SECOND);
      x.set(0, 3, 0);
      x.set(1, 3, 99);
    }, x -> x.sweet(1), 1);
    e.answers("22: beyond 99999 in thought", x -> {
      signs(9, 8).on(x);
      Edges.runTo(x, Edges.LAST_SECOND);
    }, x -> x.setOff(0, 1, 1), 1);
    e.answers("24: beyond 99999 in thought", x -> {
      x.person(COUGHER, 9, 0);
      Edges.runTo(x, Edges.LAST_SECOND);
      x.set(0, 3, 0);
      x.sheet(0, 0, 1);
      x.mark(0, 0, 1);
    }, x -> x.toldBy(0, 0, 0), SIGN);
  }
}
