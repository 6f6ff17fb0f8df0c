/** Boundaries of promises 36 to 39: slots. */
public final class SlotsEdgesTest {
  private static final int BAD = Edges.BAD, NO = Edges.NO, NONE = Edges.NONE, NOTHING = Edges.NOTHING, KIND = Edges.KIND,
      INDEX = Edges.INDEX, MIN = Edges.MIN, MAX = Edges.MAX;
  private static final int COUGHER = 0, KEEPER = 1, COVERED = 2, FOLLOWER = 3, BORED = 4, SIGN = 5;
  private static final int A_NOTHING = 0, A_PERSON = 1, A_SHEET = 2, A_NUMBER = 3;
  private static final Edges e = new Edges();

  public static void main(String[] args) {
    layRanges();
    layOfPeople();
    layOfSheets();
    layOfNumbers();
    layTellsWhatItHeld();
    layKeepsPeople();
    layKeepsSheets();
    askRanges();
    askKinds();
    askWorth();
    itemRanges();
    itemPlaces();
    remainsRanges();
    remainsNumbers();
    e.end();
  }

  // ---- promise 36

  private static void layRanges() {
    for (int thing : new int[] {A_NOTHING, A_PERSON, A_SHEET, A_NUMBER}) {
      e.range("36: slot, thing " + thing, Edges::furnish, (x, v) -> x.lay(v, thing, 0), Edges.at(0, 1), Edges.at(4, 0));
    }
    e.range("36: thing", Edges::furnish, (x, v) -> x.lay(2, v, 0), Edges.at(A_NOTHING, 3), Edges.at(A_NUMBER, 3));
    for (int k : new int[] {MIN, -1, 0, 99, MAX}) {
      e.answers("36: nothing, k any: " + k, Edges::furnish, x -> x.lay(1, A_NOTHING, k), 2);
      e.answers("36: it holds nothing then", Edges.then(Edges::furnish, x -> x.lay(1, A_NOTHING, k)), x -> x.item(1, 0), NOTHING);
    }
  }

  private static void layOfPeople() {
    e.refuses("36: BAD: nobody is there", Edges.NEW, x -> x.lay(0, A_PERSON, 0), BAD);
    e.range("36: one of one", Edges.people(1), (x, v) -> x.lay(0, A_PERSON, v), Edges.at(0, 0), Edges.at(0, 0));
    e.range("36: one of ten", Edges.people(10), (x, v) -> x.lay(0, A_PERSON, v), Edges.at(0, 0), Edges.at(9, 0));
    e.range("36: one, among others", Edges::furnish, (x, v) -> x.lay(0, A_PERSON, v), Edges.at(0, 1), Edges.at(3, 1));
    e.refuses("36: BAD: one that is not in THE IMAGE", x -> {
      x.keep();
      x.person(0, 0, 0);
      x.back();
    }, x -> x.lay(0, A_PERSON, 0), BAD);
  }

  private static void layOfSheets() {
    e.range("36: SHEET", x -> {
      for (int k = 0; k < 4; k++) {
        x.sheet(k, 0, k);
      }
    }, (x, v) -> x.lay(0, A_SHEET, v), Edges.at(0, 0), Edges.at(3, 0));
    for (int v : new int[] {-1, 4}) {
      e.refuses("36: SHEET, among others: " + v, Edges::furnish, x -> x.lay(1, A_SHEET, v), BAD);
    }
    for (int k = 0; k < 4; k++) {
      int sheet = k;
      e.refuses("36: NOTHING: SHEET " + k + " is MISSING", Edges.NEW, x -> x.lay(0, A_SHEET, sheet), NOTHING);
    }
    e.refuses("36: NOTHING, among others", Edges::furnish, x -> x.lay(1, A_SHEET, 3), NOTHING);
    e.refuses("36: BAD ahead of NOTHING: slot", Edges::furnish, x -> x.lay(5, A_SHEET, 3), BAD);
    e.refuses("36: BAD ahead of NOTHING: k", Edges.NEW, x -> x.lay(0, A_SHEET, 4), BAD);
    e.answers("36: a SHEET without places", Edges::furnish, x -> x.lay(4, A_SHEET, 2), 0);
  }

  private static void layOfNumbers() {
    for (int k : new int[] {MIN, NONE, BAD, -1, 0, 1, MAX}) {
      e.answers("36: the number, any: " + k, Edges.NEW, x -> x.lay(0, A_NUMBER, k), 0);
      e.answers("36: it is " + k, x -> x.lay(0, A_NUMBER, k), x -> x.remains(0, MIN), k % MIN);
    }
  }

  private static void holds(HallCoughs x, int slot, int thing) {
    if (thing == A_SHEET) {
      x.sheet(0, 0, 2);
    } else if (thing == A_PERSON) {
      x.person(0, 0, 0);
    }
    x.lay(slot, thing, 0);
  }

  private static void layTellsWhatItHeld() {
    for (int k = 0; k < 4; k++) {
      int was = k;
      for (int slot = 0; slot < 5; slot++) {
        int held = slot;
        e.answers("36: SLOT " + slot + " held " + was, x -> holds(x, held, was), x -> x.lay(held, A_NUMBER, 1), was);
        e.answers("36: the next SLOT holds nothing", x -> holds(x, held, was), x -> x.lay((held + 1) % 5, A_NUMBER, 1), 0);
      }
      for (int then = 0; then < 4; then++) {
        int thing = then;
        e.answers("36: " + then + " in place of " + was, x -> {
          holds(x, 2, was);
          holds(x, 2, thing);
        }, x -> x.lay(2, A_NOTHING, 0), thing);
      }
    }
  }

  private static void layKeepsPeople() {
    Edges.Calls keeper = x -> {
      x.person(KEEPER, 7, 30);
      x.lay(0, A_PERSON, 0);
    };
    e.answers("36: AGE as it was then", Edges.then(keeper, x -> x.set(0, 2, 99)), x -> x.ask(0, KEEPER), 34);
    e.answers("36: KIND as it was then", Edges.then(keeper, x -> x.turns(0, COVERED)), x -> x.ask(0, KEEPER), 34);
    e.refuses("36: not the one it turned to", Edges.then(keeper, x -> x.turns(0, COVERED)), x -> x.ask(0, COVERED), KIND);
    e.answers("36: SEAT as it was then", x -> {
      x.person(SIGN, 7, 30);
      x.lay(0, A_PERSON, 0);
      x.move(0, 29);
    }, x -> x.ask(0, SIGN), 7);
    e.answers("36: for good, also when nobody is there any more", x -> {
      x.keep();
      keeper.on(x);
      x.back();
    }, x -> x.ask(0, KEEPER), 34);
    e.answers("36: for good, also when another one has its number", x -> {
      x.keep();
      keeper.on(x);
      x.back();
      x.person(SIGN, 20, 1);
    }, x -> x.ask(0, KEEPER), 34);
    e.answers("36: a refused call leaves it", Edges.then(keeper, x -> x.lay(0, A_PERSON, 1)), x -> x.ask(0, KEEPER), 34);
  }

  private static void layKeepsSheets() {
    Edges.Calls row = x -> {
      x.sheet(1, 1, 24);
      x.mark(1, 0, -99999);
      x.mark(1, 23, 99999);
      x.mark(1, 22, NONE);
      x.lay(3, A_SHEET, 1);
    };
    e.answers("36: as it was then, the first", Edges.then(row, x -> x.mark(1, 0, 5)), x -> x.item(3, 0), -99999);
    e.answers("36: as it was then, the last", Edges.then(row, x -> x.mark(1, 23, 5)), x -> x.item(3, 23), 99999);
    e.answers("36: as it was then, NO NUMBER", Edges.then(row, x -> x.mark(1, 22, 5)), x -> x.item(3, 22), KIND);
    e.answers("36: also when it is MISSING", Edges.then(row, x -> x.sheet(1, -1, 0)), x -> x.item(3, 23), 99999);
    e.answers("36: also when it is shorter", Edges.then(row, x -> x.sheet(1, 0, 1)), x -> x.item(3, 23), 99999);
    e.answers("36: also when another one comes over it", Edges.then(row, x -> x.copy(1, 1, 1, 0, 1)), x -> x.item(3, 0), -99999);
    e.answers("36: two SLOTS, two rows", Edges.then(row, x -> {
      x.mark(1, 0, 5);
      x.lay(2, A_SHEET, 1);
    }), x -> x.item(2, 0) - x.item(3, 0), 100004);
    e.answers("36: a shorter one in its place", Edges.then(row, x -> {
      x.sheet(1, 0, 1);
      x.lay(3, A_SHEET, 1);
    }), x -> x.item(3, 1), INDEX);
  }

  // ---- promise 37

  private static void askRanges() {
    e.range("37: slot", x -> {
      x.person(SIGN, 0, 0);
      x.person(SIGN, 9, 0);
      x.lay(0, A_PERSON, 0);
      x.lay(4, A_PERSON, 1);
    }, (x, v) -> x.ask(v, 0), Edges.at(0, 0), Edges.at(4, 9));
    e.range("37: kind", x -> {
      x.person(SIGN, 8, 0);
      x.lay(0, A_PERSON, 0);
    }, (x, v) -> x.ask(0, v), Edges.at(0, 8), Edges.at(5, 8));
    for (int slot = 0; slot < 5; slot++) {
      int asked = slot;
      e.refuses("37: NOTHING: SLOT " + slot, Edges.NEW, x -> x.ask(asked, 0), NOTHING);
    }
    e.refuses("37: NOTHING, among others", Edges::furnish, x -> x.ask(4, 0), NOTHING);
    for (int kind : new int[] {-1, 6, MIN, MAX}) {
      e.refuses("37: BAD ahead of NOTHING: kind " + kind, Edges::furnish, x -> x.ask(4, kind), BAD);
      e.refuses("37: BAD ahead of KIND: kind " + kind, Edges::furnish, x -> x.ask(1, kind), BAD);
    }
    e.refuses("37: BAD: slot", Edges::furnish, x -> x.ask(5, 0), BAD);
    for (int kind = 0; kind < 6; kind++) {
      int asked = kind;
      e.refuses("37: KIND: a SHEET as " + kind, Edges::furnish, x -> x.ask(1, asked), KIND);
      e.refuses("37: KIND: a number as " + kind, Edges::furnish, x -> x.ask(2, asked), KIND);
    }
    e.refuses("37: KIND: a number where one was", x -> {
      x.person(0, 0, 0);
      x.lay(0, A_PERSON, 0);
      x.lay(0, A_NUMBER, 0);
    }, x -> x.ask(0, 0), KIND);
    e.refuses("37: NOTHING where one was", x -> {
      x.person(0, 0, 0);
      x.lay(0, A_PERSON, 0);
      x.lay(0, A_NOTHING, 0);
    }, x -> x.ask(0, 0), NOTHING);
  }

  private static Edges.Calls laid(int kind, int seat, int age) {
    return x -> {
      x.person(kind, seat, age);
      x.lay(2, A_PERSON, 0);
    };
  }

  private static void askKinds() {
    int[][] of = {{COUGHER}, {COUGHER, KEEPER}, {COUGHER, COVERED}, {COUGHER, KEEPER, FOLLOWER}, {COUGHER, COVERED, BORED},
        {COUGHER, SIGN}};
    int[] worth = {10, 14, 90, 28, 84, 3};
    for (int k = 0; k < 6; k++) {
      int kind = k;
      for (int asked = 0; asked < 6; asked++) {
        int as = asked;
        boolean is = java.util.Arrays.stream(of[kind]).anyMatch(one -> one == as);
        if (is) {
          e.answers("37: " + kind + " as " + as + ", by its own KIND", laid(kind, 3, 10), x -> x.ask(2, as), worth[kind]);
        } else {
          e.refuses("37: KIND: " + kind + " as " + as, laid(kind, 3, 10), x -> x.ask(2, as), KIND);
        }
      }
    }
  }

  private static void askWorth() {
    int[][] rows = {{COUGHER, 1, 0, 0}, {COUGHER, 1, 99, 99}, {KEEPER, 1, 0, 4}, {KEEPER, 1, 99, 103}, {COVERED, 1, 0, 100}, {COVERED, 1, 99, 1},
        {FOLLOWER, 1, 0, 8}, {FOLLOWER, 1, 99, 206}, {BORED, 1, 0, 94}, {BORED, 1, 94, 0}, {BORED, 1, 95, -1}, {BORED, 1, 99, -5},
        {SIGN, 0, 99, 0}, {SIGN, 29, 0, 29}};
    for (int[] row : rows) {
      e.answers("37: WORTH of KIND " + row[0] + " on " + row[1] + " of AGE " + row[2], laid(row[0], row[1], row[2]),
          x -> x.ask(2, COUGHER), row[3]);
    }
  }

  // ---- promise 38

  private static void itemRanges() {
    e.range("38: slot", x -> {
      x.sheet(0, 0, 1);
      x.lay(0, A_SHEET, 0);
      x.mark(0, 0, 9);
      x.lay(4, A_SHEET, 0);
    }, (x, v) -> x.item(v, 0), Edges.at(0, 0), Edges.at(4, 9));
    for (int slot = 0; slot < 5; slot++) {
      int asked = slot;
      e.refuses("38: NOTHING: SLOT " + slot, Edges.NEW, x -> x.item(asked, 0), NOTHING);
    }
    for (int place : new int[] {-1, 0, 24, MIN, MAX}) {
      e.refuses("38: BAD ahead of all, place " + place, Edges::furnish, x -> x.item(5, place), BAD);
      e.refuses("38: NOTHING ahead of INDEX, place " + place, Edges::furnish, x -> x.item(4, place), NOTHING);
      e.refuses("38: KIND: one of PEOPLE, place " + place, Edges::furnish, x -> x.item(0, place), KIND);
      e.refuses("38: KIND: a number, place " + place, Edges::furnish, x -> x.item(2, place), KIND);
    }
  }

  private static Edges.Calls laidRow(int sort, int places) {
    return x -> {
      x.sheet(0, sort, places);
      for (int k = 0; k < places; k++) {
        x.mark(0, k, 100 + k);
      }
      x.lay(1, A_SHEET, 0);
    };
  }

  private static void itemPlaces() {
    for (int sort : new int[] {0, 1}) {
      for (int places : new int[] {0, 1, 23, 24}) {
        for (int far : new int[] {-1, places, MIN, MAX}) {
          e.refuses("38: INDEX: " + far + " of " + places, laidRow(sort, places), x -> x.item(1, far), INDEX);
        }
        if (places > 0) {
          e.answers("38: the first of " + places, laidRow(sort, places), x -> x.item(1, 0), 100);
          e.answers("38: the last of " + places, laidRow(sort, places), x -> x.item(1, places - 1), 99 + places);
        }
      }
      e.answers("38: INDEX: of the row in the SLOT, not of the longer SHEET", Edges.then(laidRow(sort, 2), x -> x.sheet(0, sort, 24)),
          x -> x.item(1, 2), INDEX);
      e.answers("38: a place of the row in the SLOT, not of the shorter SHEET", Edges.then(laidRow(sort, 2), x -> x.sheet(0, sort, 0)),
          x -> x.item(1, 1), 101);
    }
    Edges.Calls noNumber = x -> {
      x.sheet(0, 1, 3);
      x.mark(0, 1, NONE);
      x.lay(1, A_SHEET, 0);
    };
    e.refuses("38: KIND: NO NUMBER", noNumber, x -> x.item(1, 1), KIND);
    e.answers("38: the one ahead is a number", noNumber, x -> x.item(1, 0), 0);
    e.answers("38: the one behind is a number", noNumber, x -> x.item(1, 2), 0);
    e.refuses("38: INDEX behind a NO NUMBER", x -> {
      x.sheet(0, 1, 1);
      x.mark(0, 0, NONE);
      x.lay(1, A_SHEET, 0);
    }, x -> x.item(1, 1), INDEX);
  }

  // ---- promise 39

  private static void remainsRanges() {
    e.range("39: slot", x -> {
      x.lay(0, A_NUMBER, 7);
      x.lay(4, A_NUMBER, 8);
    }, (x, v) -> x.remains(v, 5), Edges.at(0, 2), Edges.at(4, 3));
    for (int slot = 0; slot < 5; slot++) {
      int asked = slot;
      e.refuses("39: NOTHING: SLOT " + slot, Edges.NEW, x -> x.remains(asked, 5), NOTHING);
    }
    for (int n : new int[] {0, 5}) {
      e.refuses("39: BAD: slot, by " + n, Edges::furnish, x -> x.remains(5, n), BAD);
      e.refuses("39: NOTHING, by " + n, Edges::furnish, x -> x.remains(4, n), NOTHING);
      e.refuses("39: KIND: one of PEOPLE, by " + n, Edges::furnish, x -> x.remains(0, n), KIND);
      e.refuses("39: KIND: a SHEET, by " + n, Edges::furnish, x -> x.remains(1, n), KIND);
    }
    e.refuses("39: NO: n is 0", Edges::furnish, x -> x.remains(2, 0), NO);
    e.refuses("39: NO: the number 0 by 0", x -> x.lay(0, A_NUMBER, 0), x -> x.remains(0, 0), NO);
  }

  private static void remainsNumbers() {
    int[][] rows = {{7, 3, 1}, {-7, 3, -1}, {7, -3, 1}, {-7, -3, -1}, {6, 3, 0}, {-6, 3, 0}, {0, 3, 0}, {2, 3, 2}, {3, 3, 0}, {7, 1, 0},
        {7, -1, 0}, {-7, -1, 0}, {MIN, -1, 0}, {MIN, 1, 0}, {MIN, MIN, 0}, {MAX, MAX, 0}, {MAX, MIN, MAX}, {MIN, MAX, -1}, {0, MIN, 0},
        {0, MAX, 0}, {0, -1, 0}, {MIN, 10, -8}, {MAX, 10, 7}};
    for (int[] row : rows) {
      e.answers("39: " + row[0] + " by " + row[1], x -> x.lay(3, A_NUMBER, row[0]), x -> x.remains(3, row[1]), row[2]);
    }
  }
}
