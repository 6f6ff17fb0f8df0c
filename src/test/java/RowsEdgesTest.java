/** Boundaries of promises 40 to 44: rows, images. */
public final class RowsEdgesTest {
  private static final int BAD = Edges.BAD, NO = Edges.NO, FULL = Edges.FULL, NONE = Edges.NONE, NOTHING = Edges.NOTHING,
      MIN = Edges.MIN, MAX = Edges.MAX;
  private static final int COUGHER = 0, SIGN = 5;
  private static final Edges e = new Edges();

  public static void main(String[] args) {
    tellRoom();
    checkRange();
    checkRefused();
    checkShortAndLong();
    checkWrongAt();
    checkThirty();
    checkByTheImage();
    checkUpToTheLast();
    keepCounts();
    keepAgain();
    backRefused();
    backAgain();
    backAfterEachChange();
    backLeaves();
    countRange();
    countEnds();
    e.end();
  }

  private static Edges.Calls told(int... numbers) {
    return x -> {
      for (int v : numbers) {
        x.tell(v);
      }
    };
  }

  private static Edges.Calls zeros(int many) {
    return told(new int[many]);
  }

  // ---- promise 40

  private static void tellRoom() {
    for (int many : new int[] {0, 1, 58, 59}) {
      e.answers("40: one behind " + many, zeros(many), x -> x.tell(7), many + 1);
    }
    e.refuses("40: FULL: behind 60", zeros(60), x -> x.tell(7), FULL);
    e.refuses("40: FULL, any number", zeros(60), x -> x.tell(MIN), FULL);
    e.answers("40: still 60", Edges.then(zeros(60), x -> x.tell(7)), x -> x.count(8), 60);
    e.answers("40: FULL again", Edges.then(zeros(60), x -> x.tell(7)), x -> x.tell(7), FULL);
    e.answers("40: room again behind check", Edges.then(zeros(60), x -> x.check(1)), x -> x.tell(7), 1);
    e.answers("40: no room again by an IMAGE", x -> {
      x.keep();
      zeros(60).on(x);
      x.back();
    }, x -> x.tell(7), FULL);
    for (int v : new int[] {MIN, NONE, BAD, -1, 0, MAX}) {
      e.answers("40: any number: " + v, Edges.NEW, x -> x.tell(v), 1);
    }
  }

  // ---- promise 41

  private static void checkRange() {
    for (int n : new int[] {1, 30}) {
      e.answers("41: n " + n, Edges.then(x -> x.keep(), zeros(2 * n)), x -> x.check(n), 0);
    }
    for (int n : new int[] {0, -1, 31, 32, MIN, MAX}) {
      e.answers("41: BAD: n " + n, Edges.then(x -> x.keep(), zeros(60)), x -> x.check(n), BAD);
      e.answers("41: BAD ahead of NO: n " + n, zeros(60), x -> x.check(n), BAD);
      e.answers("41: BAD: none wait then, n " + n, Edges.then(zeros(60), x -> x.check(n)), x -> x.count(8), 0);
    }
  }

  private static void checkRefused() {
    e.refuses("41: NO: there is no IMAGE", Edges.NEW, x -> x.check(1), NO);
    e.answers("41: NO, though numbers wait", zeros(2), x -> x.check(1), NO);
    e.answers("41: NO: none wait then", Edges.then(zeros(2), x -> x.check(30)), x -> x.count(8), 0);
    Edges.Calls gone = Edges.then(Edges::furnish, x -> x.check(1));
    e.alike("41: BAD changes nothing but the numbers that wait", Edges.then(Edges::furnish, x -> x.check(0)), gone);
    e.alike("41: BAD changes nothing but the numbers that wait, above", Edges.then(Edges::furnish, x -> x.check(31)), gone);
    e.alike("41: NO changes nothing but the numbers that wait", Edges.then(Edges.people(3), Edges.then(zeros(9), x -> x.check(1))),
        Edges.people(3));
    e.alike("41: nor does any answer", Edges.then(Edges.people(3), Edges.then(x -> x.keep(), Edges.then(zeros(9), x -> x.check(30)))),
        Edges.then(Edges.people(3), x -> x.keep()));
  }

  /** In the first SECOND of its IMAGE one coughs, for a HARM of 60, in the second one another, for 10 more, then nobody. */
  private static Edges.Calls twoCough() {
    return x -> {
      x.person(COUGHER, 0, 0);
      x.person(COUGHER, 1, 0);
      x.set(0, 3, 96);
      x.set(1, 3, 92);
      x.loud(1, 50);
      x.keep();
    };
  }

  private static void checked(int n, int want, int... numbers) {
    e.answers("41: check " + n + " of " + java.util.Arrays.toString(numbers), Edges.then(twoCough(), told(numbers)), x -> x.check(n), want);
    e.answers("41: none wait then, " + want, Edges.then(twoCough(), Edges.then(told(numbers), x -> x.check(n))), x -> x.count(8), 0);
  }

  private static void checkShortAndLong() {
    checked(1, 0, 1, 60);
    checked(2, 0, 1, 60, 1, 70);
    checked(3, 0, 1, 60, 1, 70, 0, 70);
    checked(1, 1);
    checked(30, 1);
    checked(1, 2, 1);
    checked(2, 3, 1, 60);
    checked(2, 4, 1, 60, 1);
    checked(30, 7, 1, 60, 1, 70, 0, 70);
    checked(1, 3, 1, 60, 1);
    checked(1, 3, 1, 60, 1, 70);
    checked(1, 3, 1, 60, 0);
    checked(2, 5, 1, 60, 1, 70, 0);
    e.answers("41: none wait for the next one", Edges.then(twoCough(), Edges.then(told(1, 60), x -> x.check(1))), x -> x.check(1), 1);
  }

  private static void checkWrongAt() {
    checked(1, 1, 0, 60);
    checked(1, 1, 2, 60);
    checked(1, 2, 1, 59);
    checked(1, 2, 1, 61);
    checked(2, 3, 1, 60, 0, 70);
    checked(2, 4, 1, 60, 1, 69);
    checked(2, 4, 1, 60, 1, 10);
    checked(2, 1, 0, 59, 0, 69);
    checked(2, 2, 1, 59, 1);
    checked(1, 1, 0, 60, 1);
    checked(1, 2, 1, 59, 1);
    checked(1, 1, NONE, 60);
    checked(1, 1, MIN, MAX);
  }

  private static void checkThirty() {
    Edges.Calls kept = x -> x.keep();
    e.answers("41: thirty", Edges.then(kept, zeros(60)), x -> x.check(30), 0);
    e.answers("41: thirty, the last is missing", Edges.then(kept, zeros(59)), x -> x.check(30), 60);
    e.answers("41: thirty, the last two are", Edges.then(kept, zeros(58)), x -> x.check(30), 59);
    e.answers("41: thirty, the last is wrong", Edges.then(kept, Edges.then(zeros(59), told(1))), x -> x.check(30), 60);
    e.answers("41: 29, one too many", Edges.then(kept, zeros(59)), x -> x.check(29), 59);
    e.answers("41: 29, two too many", Edges.then(kept, zeros(60)), x -> x.check(29), 59);
    e.answers("41: 29, just so many", Edges.then(kept, zeros(58)), x -> x.check(29), 0);
    e.answers("41: not one that was FULL", Edges.then(kept, Edges.then(zeros(60), told(1))), x -> x.check(30), 0);
    int[] signTold = new int[60]; // a SIGN on 29 coughs in the thirtieth alone
    signTold[58] = 1;
    signTold[59] = 60;
    Edges.Calls sign = x -> {
      x.person(SIGN, 29, 0);
      x.keep();
    };
    e.answers("41: the thirtieth SECOND counts", Edges.then(sign, told(signTold)), x -> x.check(30), 0);
    e.answers("41: it is told otherwise", Edges.then(sign, zeros(60)), x -> x.check(30), 59);
  }

  private static void checkByTheImage() {
    e.answers("41: by THE IMAGE, not as it is now", Edges.then(twoCough(), x -> {
      x.run(9);
      told(1, 60).on(x);
    }), x -> x.check(1), 0);
    e.answers("41: by the last IMAGE", Edges.then(twoCough(), x -> {
      x.run(1);
      x.keep();
      told(1, 70).on(x);
    }), x -> x.check(1), 0);
    e.answers("41: HARM so far is told too", Edges.then(twoCough(), x -> {
      x.run(2);
      x.keep();
      told(0, 70).on(x);
    }), x -> x.check(1), 0);
    e.answers("41: by THE IMAGE's TEXTS", Edges.then(twoCough(), x -> {
      Due.tellText(x, "harm 7");
      told(1, 60).on(x);
    }), x -> x.check(1), 0);
    e.answers("41: numbers that waited ahead of it", Edges.then(told(1, 60), twoCough()), x -> x.check(1), 0);
    e.answers("41: numbers that wait stay behind back", Edges.then(twoCough(), x -> {
      told(1, 60).on(x);
      x.back();
    }), x -> x.check(1), 0);
    e.answers("41: nobody in THE IMAGE", x -> {
      x.keep();
      x.person(SIGN, 0, 0);
      zeros(2).on(x);
    }, x -> x.check(1), 0);
    e.alike("41: THE IMAGE stays as it is", Edges.then(twoCough(), x -> x.check(30)), twoCough());
  }

  private static void checkLate(int second, int n, int numbers, int want) {
    e.answers("41: " + n + " from " + second + ", " + numbers + " wait", x -> {
      Edges.runTo(x, second);
      x.keep();
      zeros(numbers).on(x);
    }, x -> x.check(n), want);
  }

  private static void checkUpToTheLast() {
    checkLate(99999, 1, 0, 0);
    checkLate(99999, 30, 0, 0);
    checkLate(99999, 1, 1, 1);
    checkLate(99999, 30, 2, 1);
    checkLate(99998, 1, 2, 0);
    checkLate(99998, 2, 2, 0);
    checkLate(99998, 30, 2, 0);
    checkLate(99998, 30, 1, 2);
    checkLate(99998, 30, 3, 3);
    checkLate(99997, 1, 2, 0);
    checkLate(99997, 2, 2, 3);
    checkLate(99997, 2, 4, 0);
    checkLate(99997, 3, 4, 0);
    checkLate(99996, 3, 4, 5);
    checkLate(99996, 3, 6, 0);
    checkLate(99996, 4, 6, 0);
    e.answers("41: BAD in the last second", x -> {
      Edges.runTo(x, 99999);
      x.keep();
    }, x -> x.check(31), BAD);
    e.answers("41: the IMAGE's SECOND counts, not that of now", x -> {
      x.keep();
      Edges.runTo(x, 99999);
      zeros(4).on(x);
    }, x -> x.check(2), 0);
  }

  // ---- promises 42, 43

  private static void keepCounts() {
    for (int many : new int[] {0, 1, 9, 10}) {
      e.answers("42: how many, " + many, Edges.people(many), x -> x.keep(), many);
      e.answers("43: how many, " + many, Edges.then(Edges.people(many), x -> x.keep()), x -> x.back(), many);
    }
    e.answers("42: not those of a refused call", Edges.then(Edges.people(10), x -> x.person(0, 20, 0)), x -> x.keep(), 10);
    e.answers("43: as many as in THE IMAGE, fewer than now", x -> {
      x.keep();
      x.deal(10);
    }, x -> x.back(), 0);
  }

  private static void keepAgain() {
    e.answers("42: the last one counts", x -> {
      x.keep();
      x.deal(3);
      x.keep();
      x.deal(7);
    }, x -> x.back(), 3);
    e.answers("42: also with fewer", x -> {
      x.keep();
      x.deal(10);
      x.back();
      x.deal(1);
      x.keep();
      x.deal(9);
    }, x -> x.back(), 1);
    e.alike("42: what is kept twice", Edges.then(Edges::furnish, x -> {
      x.keep();
      x.keep();
    }), Edges.then(Edges::furnish, x -> x.keep()));
    e.answers("42: fewer BARS than in the one ahead", x -> {
      x.bars(24);
      x.loud(23, 9);
      x.keep();
      x.bars(2);
      x.keep();
      x.bars(24);
      x.back();
      x.bars(24);
    }, x -> x.music(23), 0);
  }

  private static void backRefused() {
    e.refuses("43: NO: there is no IMAGE", Edges.NEW, x -> x.back(), NO);
    Edges.Calls some = x -> {
      x.deal(4);
      x.run(50);
      Due.tellText(x, "itch a");
      x.sheet(0, 0, 2);
      x.tell(5);
    };
    e.refuses("43: NO, whatever there is", some, x -> x.back(), NO);
    e.answers("43: no NO behind keep", x -> x.keep(), x -> x.back(), 0);
  }

  private static void backAgain() {
    Edges.Calls other = x -> {
      x.deal(10);
      x.run(200);
      x.bars(7);
      x.hall(0, 0);
    };
    Edges.Calls kept = Edges.then(Edges::furnish, x -> x.keep());
    e.alike("43: at once", Edges.then(kept, x -> x.back()), kept);
    e.alike("43: twice at once", Edges.then(kept, x -> {
      x.back();
      x.back();
    }), kept);
    e.alike("43: behind other things", Edges.then(kept, Edges.then(other, x -> x.back())), kept);
    e.alike("43: again and again", Edges.then(kept, x -> {
      for (int k = 0; k < 5; k++) {
        other.on(x);
        x.back();
      }
    }), kept);
  }

  /** Each change by itself, so that one thing that an IMAGE lost would be seen. */
  private static void backAfterEachChange() {
    Edges.Calls kept = Edges.then(Edges::furnish, x -> {
      x.trim(0);
      x.keep();
    });
    Edges.Calls[] changes = {x -> x.person(1, 12, 12), x -> x.turns(0, 0), x -> x.set(0, 2, 0), x -> x.set(0, 3, 999), x -> x.set(0, 4, 99),
        x -> x.move(0, 17), x -> x.deal(10), x -> x.seed(MIN), x -> x.hall(0, 99), x -> x.hall(1, 9), x -> x.bars(1), x -> x.bars(24),
        x -> x.loud(0, 99), x -> x.loud(3, 0), x -> x.pour(0), x -> x.run(1), x -> x.run(200), x -> Due.tellText(x, "itch 99"),
        x -> Due.tellText(x, "harm 9999"), x -> Due.tellText(x, "fine 1")};
    for (int k = 0; k < changes.length; k++) {
      e.alike("43: as THE IMAGE behind change " + k, Edges.then(kept, Edges.then(changes[k], x -> x.back())), kept);
    }
    e.answers("43: THE SECOND too", Edges.then(kept, x -> {
      x.run(77);
      x.back();
    }), x -> x.count(2), 7);
    e.answers("43: from the last second", x -> {
      x.keep();
      Edges.runTo(x, Edges.LAST_SECOND);
      x.back();
    }, x -> x.run(9) + x.count(2), 9);
    e.answers("43: to the last second", x -> {
      Edges.runTo(x, Edges.LAST_SECOND);
      x.keep();
      x.back();
    }, x -> x.run(9) + x.count(2), 99999);
  }

  private static void backLeaves() {
    e.answers("43: SHEETS stay, one that is new", x -> {
      x.keep();
      x.sheet(3, 0, 24);
      x.back();
    }, x -> x.mark(3, 23, 1), 1);
    e.answers("43: SHEETS stay, one that is MISSING", x -> {
      x.sheet(3, 0, 24);
      x.keep();
      x.sheet(3, -1, 0);
      x.back();
    }, x -> x.mark(3, 23, 1), NOTHING);
    e.answers("43: places of SHEETS stay", x -> {
      x.sheet(3, 0, 1);
      x.keep();
      x.mark(3, 0, 5);
      x.back();
      x.lay(0, 2, 3);
    }, x -> x.item(0, 0), 5);
    e.answers("43: SLOTS stay", x -> {
      x.keep();
      x.lay(4, 3, 7);
      x.back();
    }, x -> x.remains(4, 10), 7);
    e.answers("43: SLOTS stay empty", x -> {
      x.lay(4, 3, 7);
      x.keep();
      x.lay(4, 0, 0);
      x.back();
    }, x -> x.remains(4, 10), NOTHING);
    e.answers("43: numbers that wait stay", x -> {
      x.keep();
      zeros(3).on(x);
      x.back();
    }, x -> x.count(8), 3);
    e.answers("43: those that waited do not come again", x -> {
      zeros(3).on(x);
      x.keep();
      x.check(1);
      x.back();
    }, x -> x.count(8), 0);
    e.answers("43: THE TAPE stays", x -> {
      x.keep();
      x.feed(0, 0, 0);
      x.back();
    }, x -> x.count(9), 12);
    e.answers("43: what was used up does not come again", x -> {
      x.feed(0, 0, 0);
      x.keep();
      x.text();
      x.back();
    }, x -> x.count(9), 0);
  }

  // ---- promise 44

  private static void countRange() {
    e.range("44: what", Edges.NEW, (x, v) -> x.count(v), Edges.at(0, 0), Edges.at(10, 1));
    e.range("44: what, among others", Edges::furnish, (x, v) -> x.count(v), Edges.at(0, 4), Edges.at(10, 77));
    e.alike("44: nothing changes", Edges.then(Edges::furnish, x -> x.count(3)), Edges::furnish);
  }

  private static void counts(int what, int want, Edges.Calls upTo) {
    e.answers("44: " + what + " is " + want, upTo, x -> x.count(what), want);
  }

  private static void countEnds() {
    counts(0, 10, Edges.people(10));
    counts(1, 1, x -> x.bars(1));
    counts(1, 24, x -> x.bars(24));
    counts(2, 99999, x -> Edges.runTo(x, 99999));
    counts(3, 0, Edges.people(10));
    counts(3, 10, Edges.then(Edges.people(10), x -> x.run(25)));
    counts(4, 600, Edges.then(Edges.people(10), x -> x.run(25)));
    counts(5, 0, x -> x.hall(0, 0));
    counts(5, 99, x -> x.hall(0, 99));
    counts(6, 0, x -> x.hall(1, 0));
    counts(6, 9, x -> x.hall(1, 9));
    counts(7, 14, x -> {
      for (int k = 0; k < 15; k++) {
        Due.tellText(x, "fine 1");
      }
    });
    counts(8, 60, zeros(61));
    counts(9, 96, x -> {
      for (int k = 0; k < 9; k++) {
        x.feed(0, 0, 0);
      }
    });
    counts(10, MIN, x -> x.seed(MIN));
    counts(10, MAX, x -> x.seed(MAX));
  }
}
