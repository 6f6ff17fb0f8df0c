/** Boundaries of promises 31 to 35: sheets. */
public final class SheetsEdgesTest {
  private static final int BAD = Edges.BAD, NONE = Edges.NONE, NOTHING = Edges.NOTHING, KIND = Edges.KIND, INDEX = Edges.INDEX,
      SIZE = Edges.SIZE, MIN = Edges.MIN, MAX = Edges.MAX;
  private static final int SHORTS = 0, FLOATS = 1, GONE = -1;
  private static final int[] FAR = {-1, MIN, MAX};
  private static final Edges e = new Edges();

  public static void main(String[] args) {
    sheetRanges();
    sheetSize();
    sheetIsAnew();
    sheetIsMissing();
    markRanges();
    markPlaces();
    markShorts();
    markFloats();
    markOrder();
    pourRanges();
    pourHeld();
    pourLengths();
    readsRanges();
    readsPlaces();
    readsInTheLastSecond();
    copyRanges();
    copyOrder();
    copyPlaces();
    copyMany();
    copyOverItself();
    e.end();
  }

  /** A place of a SHEET, seen in a SLOT. */
  private static int placeOf(HallCoughs x, int sheet, int place) {
    x.lay(4, 2, sheet);
    return x.item(4, place);
  }

  private static Edges.Calls sheet(int sheet, int sort, int... places) {
    return x -> {
      x.sheet(sheet, sort, places.length);
      for (int k = 0; k < places.length; k++) {
        x.mark(sheet, k, places[k]);
      }
    };
  }

  private static Edges.Calls empty(int sheet, int sort, int places) {
    return sheet(sheet, sort, new int[places]);
  }

  // ---- promise 31

  private static void sheetRanges() {
    for (int sort : new int[] {SHORTS, FLOATS}) {
      e.range("31: sheet, sort " + sort, Edges.NEW, (x, v) -> x.sheet(v, sort, 5), Edges.at(0, 5), Edges.at(3, 5));
      e.answers("31: 0 places", Edges.NEW, x -> x.sheet(0, sort, 0), 0);
      e.answers("31: 1 place", Edges.NEW, x -> x.sheet(0, sort, 1), 1);
      e.answers("31: 24 places", Edges.NEW, x -> x.sheet(0, sort, 24), 24);
      for (int n : new int[] {25, 100, MAX}) {
        e.refuses("31: BAD: n " + n, Edges::furnish, x -> x.sheet(0, sort, n), BAD);
        e.refuses("31: BAD: n of one that is MISSING " + n, Edges.NEW, x -> x.sheet(0, sort, n), BAD);
      }
    }
    e.range("31: sheet, to be MISSING", Edges::furnish, (x, v) -> x.sheet(v, GONE, 5), Edges.at(0, 0), Edges.at(3, 0));
    e.range("31: sort", Edges.NEW, (x, v) -> x.sheet(1, v, 5), Edges.at(GONE, 0), Edges.at(FLOATS, 5));
    e.range("31: sort, among others", Edges::furnish, (x, v) -> x.sheet(1, v, 5), Edges.at(GONE, 0), Edges.at(FLOATS, 5));
  }

  private static void sheetSize() {
    for (int sort : new int[] {SHORTS, FLOATS}) {
      for (int n : new int[] {-1, -24, MIN}) {
        e.refuses("31: SIZE: n " + n, Edges::furnish, x -> x.sheet(0, sort, n), SIZE);
        e.refuses("31: SIZE: n of one that is MISSING " + n, Edges.NEW, x -> x.sheet(3, sort, n), SIZE);
        e.refuses("31: BAD ahead of SIZE: sheet", Edges::furnish, x -> x.sheet(4, sort, n), BAD);
      }
    }
    e.refuses("31: BAD ahead of SIZE: sort above", Edges::furnish, x -> x.sheet(0, 2, -1), BAD);
    e.refuses("31: BAD ahead of SIZE: sort below", Edges::furnish, x -> x.sheet(0, -2, -1), BAD);
    for (int n : new int[] {MIN, -1, 0, 24, 25, MAX}) {
      e.answers("31: MISSING, n any: " + n, Edges::furnish, x -> x.sheet(0, GONE, n), 0);
      e.answers("31: MISSING still, n any: " + n, Edges.NEW, x -> x.sheet(0, GONE, n), 0);
    }
  }

  private static void sheetIsAnew() {
    int[] full = new int[24];
    java.util.Arrays.fill(full, 7);
    for (int was : new int[] {SHORTS, FLOATS}) {
      for (int sort : new int[] {SHORTS, FLOATS}) {
        Edges.Calls anew = Edges.then(sheet(2, was, full), x -> x.sheet(2, sort, 24));
        e.answers("31: all 0, the first", anew, x -> placeOf(x, 2, 0), 0);
        e.answers("31: all 0, the last", anew, x -> placeOf(x, 2, 23), 0);
        e.answers("31: it is of the sort", Edges.then(anew, x -> x.sheet(0, sort, 1)), x -> x.copy(2, 0, 0, 0, 1), 1);
        e.answers("31: and not of the other", Edges.then(anew, x -> x.sheet(0, 1 - sort, 1)), x -> x.copy(2, 0, 0, 0, 1), KIND);
      }
    }
    Edges.Calls lessAndMore = Edges.then(sheet(2, SHORTS, full), x -> {
      x.sheet(2, SHORTS, 3);
      x.sheet(2, SHORTS, 24);
    });
    e.answers("31: all 0, also behind fewer", lessAndMore, x -> placeOf(x, 2, 23), 0);
    e.answers("31: fewer places than there were", Edges.then(sheet(2, SHORTS, full), x -> x.sheet(2, SHORTS, 3)),
        x -> placeOf(x, 2, 3), INDEX);
    e.answers("31: no NO NUMBER", Edges.then(sheet(2, FLOATS, NONE), x -> x.sheet(2, FLOATS, 1)), x -> placeOf(x, 2, 0), 0);
    e.answers("31: others stay", Edges.then(sheet(1, SHORTS, 5), x -> x.sheet(2, SHORTS, 1)), x -> placeOf(x, 1, 0), 5);
  }

  private static void sheetIsMissing() {
    Edges.Calls gone = Edges.then(sheet(1, SHORTS, 5, 6), x -> x.sheet(1, GONE, 2));
    e.refuses("31: MISSING, so no mark", gone, x -> x.mark(1, 0, 1), NOTHING);
    e.refuses("31: MISSING, so not laid", gone, x -> x.lay(0, 2, 1), NOTHING);
    e.alike("31: MISSING as at first", gone, Edges.NEW);
    e.answers("31: there again, with 0", Edges.then(gone, x -> x.sheet(1, SHORTS, 2)), x -> placeOf(x, 1, 1), 0);
    e.answers("31: no place is not MISSING", empty(1, SHORTS, 0), x -> x.lay(0, 2, 1), 0);
    e.answers("31: no IMAGE keeps it", x -> {
      x.keep();
      x.sheet(1, SHORTS, 2);
      x.back();
    }, x -> x.mark(1, 1, 1), 1);
  }

  // ---- promise 32

  private static Edges.Calls allSheets(int sort, int places) {
    return x -> {
      for (int k = 0; k < 4; k++) {
        x.sheet(k, sort, places);
      }
    };
  }

  private static void markRanges() {
    for (int sort : new int[] {SHORTS, FLOATS}) {
      e.range("32: sheet, sort " + sort, allSheets(sort, 1), (x, v) -> x.mark(v, 0, 5), Edges.at(0, 1), Edges.at(3, 1));
    }
    for (int v : new int[] {-1, 4}) {
      e.refuses("32: sheet, among others: " + v, Edges::furnish, x -> x.mark(v, 0, 5), BAD);
    }
    for (int k = 0; k < 4; k++) {
      int sheet = k;
      e.refuses("32: NOTHING: SHEET " + k, Edges.NEW, x -> x.mark(sheet, 0, 5), NOTHING);
    }
    e.refuses("32: NOTHING, among others", Edges::furnish, x -> x.mark(3, 0, 5), NOTHING);
  }

  private static void markPlaces() {
    for (int sort : new int[] {SHORTS, FLOATS}) {
      for (int places : new int[] {0, 1, 2, 24}) {
        Edges.Calls row = empty(1, sort, places);
        for (int far : new int[] {-1, places, MIN, MAX}) {
          e.refuses("32: INDEX: " + far + " of " + places, row, x -> x.mark(1, far, 5), INDEX);
        }
        if (places > 0) {
          e.answers("32: the first of " + places, row, x -> x.mark(1, 0, 5), 1);
          e.answers("32: the last of " + places, row, x -> x.mark(1, places - 1, 5), 1);
          e.answers("32: it is there", Edges.then(row, x -> x.mark(1, places - 1, 5)), x -> placeOf(x, 1, places - 1), 5);
        }
        if (places > 1) {
          e.answers("32: not at another place", Edges.then(row, x -> x.mark(1, places - 1, 5)), x -> placeOf(x, 1, places - 2), 0);
        }
      }
      e.refuses("32: INDEX: one that was there ahead", Edges.then(empty(1, sort, 24), empty(1, sort, 3)), x -> x.mark(1, 3, 5), INDEX);
    }
  }

  private static void markShorts() {
    int[][] rows = {{0, 0}, {1, 1}, {-1, -1}, {32767, 32767}, {32768, -32768}, {32769, -32767}, {-32768, -32768}, {-32769, 32767},
        {65535, -1}, {65536, 0}, {65537, 1}, {-65536, 0}, {MAX, -1}, {MIN, 0}, {MIN + 1, 1}, {99999, -31073}, {100000, -31072},
        {NONE + 1, (short) (NONE + 1)}, {NONE - 1, (short) (NONE - 1)}, {BAD, (short) BAD}};
    for (int[] row : rows) {
      e.answers("32: a short " + row[0], empty(0, SHORTS, 1), x -> x.mark(0, 0, row[0]), 1);
      e.answers("32: its lowest 16 bits, of " + row[0], sheet(0, SHORTS, row[0]), x -> placeOf(x, 0, 0), row[1]);
    }
    e.refuses("32: KIND: NONE in a row of shorts", sheet(0, SHORTS, 8), x -> x.mark(0, 0, NONE), KIND);
    e.refuses("32: KIND: among others", Edges::furnish, x -> x.mark(0, 1, NONE), KIND);
  }

  private static void markFloats() {
    for (int v : new int[] {-99999, -99998, -32769, -1, 0, 1, 32768, 65536, 99998, 99999}) {
      e.answers("32: a float " + v, empty(0, FLOATS, 1), x -> x.mark(0, 0, v), 1);
      e.answers("32: it is " + v, sheet(0, FLOATS, v), x -> placeOf(x, 0, 0), v);
    }
    for (int v : new int[] {-100000, 100000, MIN, MAX, NONE - 1, NONE + 1, BAD, KIND}) {
      e.refuses("32: BAD: " + v + " of floats", sheet(0, FLOATS, 8), x -> x.mark(0, 0, v), BAD);
    }
    e.refuses("32: BAD: among others", Edges::furnish, x -> x.mark(1, 3, 100000), BAD);
    e.answers("32: NONE in a row of floats", empty(0, FLOATS, 1), x -> x.mark(0, 0, NONE), 1);
    e.answers("32: NO NUMBER then", sheet(0, FLOATS, NONE), x -> placeOf(x, 0, 0), KIND);
    e.answers("32: a number again", Edges.then(sheet(0, FLOATS, NONE), x -> x.mark(0, 0, 3)), x -> placeOf(x, 0, 0), 3);
  }

  private static void markOrder() {
    e.refuses("32: BAD ahead of NOTHING and all", Edges.NEW, x -> x.mark(4, -1, NONE), BAD);
    e.refuses("32: NOTHING ahead of INDEX", Edges.NEW, x -> x.mark(0, -1, NONE), NOTHING);
    e.refuses("32: INDEX ahead of KIND", empty(0, SHORTS, 1), x -> x.mark(0, 1, NONE), INDEX);
    e.refuses("32: INDEX ahead of BAD: v", empty(0, FLOATS, 1), x -> x.mark(0, 1, 100000), INDEX);
  }

  // ---- promise 33

  /** BARS with LOUD 10, 11 and so on. */
  private static Edges.Calls tune(int bars) {
    return x -> {
      x.bars(bars);
      for (int bar = 0; bar < bars; bar++) {
        x.loud(bar, 10 + bar);
      }
    };
  }

  private static void pourRanges() {
    e.range("33: sheet", Edges.then(allSheets(SHORTS, 1), x -> x.loud(0, 5)), (x, v) -> x.pour(v), Edges.at(0, 1), Edges.at(3, 1));
    for (int v : new int[] {-1, 4}) {
      e.refuses("33: sheet, among others: " + v, Edges::furnish, x -> x.pour(v), BAD);
    }
    e.refuses("33: NOTHING", Edges::furnish, x -> x.pour(3), NOTHING);
    e.refuses("33: NOTHING at first", tune(4), x -> x.pour(0), NOTHING);
  }

  private static void poured(int sort, int v, int loud) {
    Edges.Calls upTo = Edges.then(tune(1), sheet(0, sort, v));
    e.answers("33: how many are otherwise by " + v, upTo, x -> x.pour(0), loud == 10 ? 0 : 1);
    e.answers("33: LOUD by " + v, Edges.then(upTo, x -> x.pour(0)), x -> x.music(0), loud);
    e.answers("33: the SHEET stays, " + v, Edges.then(upTo, x -> x.pour(0)), x -> placeOf(x, 0, 0), v == NONE ? KIND : v);
  }

  private static void pourHeld() {
    int[][] rows = {{-32768, 0}, {-1, 0}, {0, 0}, {1, 1}, {9, 9}, {10, 10}, {11, 11}, {98, 98}, {99, 99}, {100, 99}, {101, 99}, {32767, 99}};
    for (int[] row : rows) {
      poured(SHORTS, row[0], row[1]);
      poured(FLOATS, row[0], row[1]);
    }
    poured(FLOATS, -99999, 0);
    poured(FLOATS, 99999, 99);
    poured(FLOATS, NONE, 10);
    e.answers("33: held to what it is: not otherwise, above", x -> {
      x.loud(0, 99);
      sheet(0, SHORTS, 500).on(x);
    }, x -> x.pour(0), 0);
    e.answers("33: held to what it is: not otherwise, below", sheet(0, SHORTS, -500), x -> x.pour(0), 0);
  }

  private static void pourLengths() {
    e.answers("33: no place", Edges.then(tune(4), empty(0, SHORTS, 0)), x -> x.pour(0), 0);
    e.alike("33: no place changes nothing", Edges.then(Edges::furnish, x -> x.pour(2)), Edges::furnish);
    e.answers("33: as many places as BARS", Edges.then(tune(24), empty(0, SHORTS, 24)), x -> x.pour(0), 24);
    e.answers("33: one fewer", Edges.then(tune(24), empty(0, SHORTS, 23)), x -> x.pour(0), 23);
    Edges.Calls fewer = Edges.then(tune(4), Edges.then(sheet(0, SHORTS, 50, 51, 52), x -> x.pour(0)));
    e.answers("33: the last of the SHEET", fewer, x -> x.music(2), 52);
    e.answers("33: beyond the SHEET it stays", fewer, x -> x.music(3), 13);
    Edges.Calls longer = Edges.then(tune(2), sheet(0, SHORTS, 50, 51, 52));
    e.answers("33: one place more than BARS", longer, x -> x.pour(0), 2);
    e.answers("33: a BAR that is new has 0", Edges.then(longer, x -> {
      x.pour(0);
      x.bars(3);
    }), x -> x.music(2), 0);
    e.answers("33: the number of BARS stays", Edges.then(longer, x -> x.pour(0)), x -> x.count(1), 2);
    e.answers("33: from BAR 0 on, whatever THE SECOND is", x -> {
      tune(4).on(x);
      x.run(3);
      sheet(0, SHORTS, 77).on(x);
      x.pour(0);
    }, x -> x.loud(0, 1), 77);
    e.answers("33: none is otherwise again", Edges.then(fewer, x -> x.pour(0)), x -> x.pour(0), 0);
    e.answers("33: NO NUMBER between", Edges.then(tune(4), sheet(0, FLOATS, 50, NONE, NONE, 53)), x -> x.pour(0), 2);
    e.answers("33: all NO NUMBER", Edges.then(tune(4), sheet(0, FLOATS, NONE, NONE, NONE, NONE)), x -> x.pour(0), 0);
  }

  // ---- promise 34

  private static void readsRanges() {
    e.range("34: sheet", Edges.then(allSheets(SHORTS, 1), x -> x.loud(0, 5)), (x, v) -> x.reads(v), Edges.at(0, 0), Edges.at(3, 0));
    for (int v : new int[] {-1, 4}) {
      e.refuses("34: sheet, among others: " + v, Edges::furnish, x -> x.reads(v), BAD);
    }
    e.refuses("34: NOTHING", Edges::furnish, x -> x.reads(3), NOTHING);
    e.refuses("34: NONE: no place", Edges::furnish, x -> x.reads(2), NONE);
    e.alike("34: nothing changes", Edges.then(Edges::furnish, x -> x.reads(1)), Edges::furnish);
  }

  private static Edges.Calls tuneIn24(int sort, int bars) {
    int[] places = new int[24];
    for (int k = 0; k < 24; k++) {
      places[k] = 10 + k % bars;
    }
    return Edges.then(tune(bars), sheet(0, sort, places));
  }

  private static void readsPlaces() {
    for (int sort : new int[] {SHORTS, FLOATS}) {
      for (int bars : new int[] {1, 5, 23, 24}) {
        Edges.Calls same = tuneIn24(sort, bars);
        e.answers("34: NONE: 24 places of " + bars + " BARS", same, x -> x.reads(0), NONE);
        for (int place : new int[] {0, 1, 22, 23}) {
          e.answers("34: one at " + place, Edges.then(same, x -> x.mark(0, place, 99)), x -> x.reads(0), place);
        }
        e.answers("34: of two the first", Edges.then(same, x -> {
          x.mark(0, 7, 99);
          x.mark(0, 8, 99);
        }), x -> x.reads(0), 7);
      }
    }
    e.answers("34: NO NUMBER is passed by", Edges.then(tuneIn24(FLOATS, 4), x -> x.mark(0, 23, NONE)), x -> x.reads(0), NONE);
    e.answers("34: NO NUMBER ahead of one", Edges.then(tuneIn24(FLOATS, 4), x -> {
      x.mark(0, 0, NONE);
      x.mark(0, 1, 0);
    }), x -> x.reads(0), 1);
    e.answers("34: NO NUMBER is passed by where LOUD is 0", sheet(0, FLOATS, NONE, 0), x -> x.reads(0), NONE);
    e.answers("34: a number is not held: below", sheet(0, SHORTS, -1), x -> x.reads(0), 0);
    e.answers("34: a number is not held: above", x -> {
      x.loud(0, 99);
      sheet(0, SHORTS, 100).on(x);
    }, x -> x.reads(0), 0);
    e.answers("34: LOUD 99", x -> {
      x.loud(0, 99);
      sheet(0, SHORTS, 99).on(x);
    }, x -> x.reads(0), NONE);
    e.answers("34: from now on, round", x -> {
      tune(4).on(x);
      x.run(3);
      sheet(0, SHORTS, 13, 10, 11, 12, 13, 11).on(x);
    }, x -> x.reads(0), 5);
  }

  private static void readsInTheLastSecond() {
    e.answers("34: beyond 99999", x -> {
      x.bars(2);
      x.loud(1, 9);
      Edges.runTo(x, Edges.LAST_SECOND);
      sheet(0, SHORTS, 9, 0, 9, 9).on(x);
    }, x -> x.reads(0), 3);
  }

  // ---- promise 35

  private static void copyRanges() {
    Edges.Calls all = allSheets(SHORTS, 3);
    e.range("35: from", all, (x, v) -> x.copy(v, 0, 1, 0, 1), Edges.at(0, 1), Edges.at(3, 1));
    e.range("35: to", all, (x, v) -> x.copy(1, 0, v, 0, 1), Edges.at(0, 1), Edges.at(3, 1));
    for (int v : new int[] {-1, 4}) {
      e.refuses("35: from, among others: " + v, Edges::furnish, x -> x.copy(v, 0, 0, 0, 1), BAD);
      e.refuses("35: to, among others: " + v, Edges::furnish, x -> x.copy(0, 0, v, 0, 1), BAD);
    }
    e.refuses("35: NOTHING: from", Edges::furnish, x -> x.copy(3, 0, 0, 0, 1), NOTHING);
    e.refuses("35: NOTHING: to", Edges::furnish, x -> x.copy(0, 0, 3, 0, 1), NOTHING);
    e.refuses("35: NOTHING: both", Edges::furnish, x -> x.copy(3, 0, 3, 0, 0), NOTHING);
    e.refuses("35: KIND: floats to shorts", Edges::furnish, x -> x.copy(1, 0, 0, 0, 1), KIND);
    e.refuses("35: KIND: shorts to floats", Edges::furnish, x -> x.copy(0, 0, 1, 0, 1), KIND);
    e.refuses("35: KIND: none of them", Edges::furnish, x -> x.copy(0, 0, 1, 0, 0), KIND);
  }

  private static void copyOrder() {
    e.refuses("35: BAD ahead of NOTHING: to", Edges::furnish, x -> x.copy(3, 0, 4, 0, 1), BAD);
    e.refuses("35: BAD ahead of NOTHING: from", Edges::furnish, x -> x.copy(-1, 0, 3, 0, 1), BAD);
    e.refuses("35: BAD ahead of INDEX", Edges::furnish, x -> x.copy(0, -1, 4, -1, -1), BAD);
    e.refuses("35: NOTHING ahead of KIND and INDEX", Edges::furnish, x -> x.copy(1, -1, 3, -1, -1), NOTHING);
    e.refuses("35: KIND ahead of INDEX", Edges::furnish, x -> x.copy(1, -1, 0, -1, -1), KIND);
  }

  /** Five shorts, 1 to 5, and three, 7 to 9. */
  private static final Edges.Calls FIVE_AND_THREE =
      Edges.then(sheet(0, SHORTS, 1, 2, 3, 4, 5), sheet(1, SHORTS, 7, 8, 9));

  private static void copyPlaces() {
    int[][] right = {{0, 0, 1}, {4, 0, 1}, {0, 2, 1}, {4, 2, 1}, {0, 0, 3}, {2, 0, 3}, {5, 0, 0}, {0, 3, 0}, {5, 3, 0}};
    for (int[] row : right) {
      e.answers("35: from " + row[0] + " to " + row[1] + ", " + row[2], FIVE_AND_THREE, x -> x.copy(0, row[0], 1, row[1], row[2]), row[2]);
    }
    int[][] beyond = {{5, 0, 1}, {0, 3, 1}, {4, 0, 2}, {0, 2, 2}, {3, 0, 3}, {0, 1, 3}, {-1, 0, 1}, {0, -1, 1}, {6, 0, 0}, {0, 4, 0},
        {-1, 0, 0}, {0, -1, 0}, {MIN, 0, 0}, {MAX, 0, 0}, {0, MIN, 0}, {0, MAX, 0}, {MAX, 0, 1}, {0, MAX, 1}, {MIN, 0, 1}, {0, MIN, 1},
        {MAX, MAX, MAX}, {MIN, MIN, MIN}, {MAX, 0, 2}, {1, 0, MAX}, {0, 1, MAX}};
    for (int[] row : beyond) {
      e.refuses("35: INDEX: from " + row[0] + " to " + row[1] + ", " + row[2], FIVE_AND_THREE,
          x -> x.copy(0, row[0], 1, row[1], row[2]), INDEX);
    }
    Edges.Calls last = Edges.then(FIVE_AND_THREE, x -> x.copy(0, 4, 1, 2, 1));
    e.answers("35: the last comes to the last", last, x -> placeOf(x, 1, 2), 5);
    e.answers("35: the one ahead of it stays", last, x -> placeOf(x, 1, 1), 8);
    e.answers("35: where it came from it stays", last, x -> placeOf(x, 0, 4), 5);
    e.alike("35: none of them changes nothing", Edges.then(FIVE_AND_THREE, x -> x.copy(0, 0, 1, 0, 0)), FIVE_AND_THREE);
  }

  private static void copyMany() {
    Edges.Calls all = allSheets(FLOATS, 24);
    e.answers("35: all 24", all, x -> x.copy(0, 0, 1, 0, 24), 24);
    e.refuses("35: INDEX: 25", all, x -> x.copy(0, 0, 1, 0, 25), INDEX);
    e.answers("35: none", all, x -> x.copy(0, 0, 1, 0, 0), 0);
    for (int many : FAR) {
      e.refuses("35: INDEX: many " + many, all, x -> x.copy(0, 0, 1, 0, many), INDEX);
    }
    Edges.Calls noPlaces = Edges.then(empty(0, SHORTS, 0), empty(1, SHORTS, 0));
    e.answers("35: none of no places", noPlaces, x -> x.copy(0, 0, 1, 0, 0), 0);
    e.refuses("35: INDEX: one of no places", noPlaces, x -> x.copy(0, 0, 1, 0, 1), INDEX);
    e.refuses("35: INDEX: a place that was there ahead", Edges.then(allSheets(SHORTS, 24), x -> x.sheet(0, SHORTS, 2)),
        x -> x.copy(0, 2, 1, 0, 1), INDEX);
    Edges.Calls noNumber = Edges.then(sheet(0, FLOATS, NONE, 70000), Edges.then(sheet(1, FLOATS, 1, NONE), x -> x.copy(0, 0, 1, 0, 2)));
    e.answers("35: NO NUMBER comes too", noNumber, x -> placeOf(x, 1, 0), KIND);
    e.answers("35: a number comes to NO NUMBER", noNumber, x -> placeOf(x, 1, 1), 70000);
  }

  private static void overItself(String sentence, int place, int at, int many, int... want) {
    for (int k = 0; k < want.length; k++) {
      int seen = k;
      e.answers("35: " + sentence + ", place " + k, Edges.then(sheet(0, SHORTS, 1, 2, 3, 4, 5), x -> x.copy(0, place, 0, at, many)),
          x -> placeOf(x, 0, seen), want[k]);
    }
  }

  private static void copyOverItself() {
    overItself("one further, as they were", 0, 1, 4, 1, 1, 2, 3, 4);
    overItself("one ahead, as they were", 1, 0, 4, 2, 3, 4, 5, 5);
    overItself("two further", 0, 2, 3, 1, 2, 1, 2, 3);
    overItself("two ahead", 2, 0, 3, 3, 4, 5, 4, 5);
    overItself("where they are", 0, 0, 5, 1, 2, 3, 4, 5);
    overItself("apart", 0, 3, 2, 1, 2, 3, 1, 2);
    e.refuses("35: INDEX: over the end of itself", sheet(0, SHORTS, 1, 2, 3, 4, 5), x -> x.copy(0, 0, 0, 1, 5), INDEX);
  }
}
