/** Boundaries of promises 11 to 14: the hall, music. */
public final class MusicEdgesTest {
  private static final int BAD = Edges.BAD;
  private static final Edges e = new Edges();

  public static void main(String[] args) {
    hall();
    barsRange();
    barsThatAreNew();
    loudRanges();
    musicRange();
    musicRound();
    musicInTheLastSecond();
    e.end();
  }

  private static void hall() {
    e.range("11: what", Edges.NEW, (x, v) -> x.hall(v, 5), Edges.at(0, 30), Edges.at(1, 3));
    e.range("11: DRY", Edges::furnish, (x, v) -> x.hall(0, v), Edges.at(0, 44), Edges.at(99, 44));
    e.range("11: NEAR", Edges::furnish, (x, v) -> x.hall(1, v), Edges.at(0, 5), Edges.at(9, 5));
    e.answers("11: DRY can be above what NEAR can", Edges.NEW, x -> x.hall(0, 10), 30);
    for (int v : new int[] {0, 99}) {
      e.answers("11: DRY is " + v, x -> x.hall(0, v), x -> x.count(5), v);
      e.answers("11: DRY was " + v, x -> x.hall(0, v), x -> x.hall(0, 50), v);
      e.answers("11: NEAR stays with DRY " + v, x -> x.hall(0, v), x -> x.count(6), 3);
    }
    for (int v : new int[] {0, 9}) {
      e.answers("11: NEAR is " + v, x -> x.hall(1, v), x -> x.count(6), v);
      e.answers("11: NEAR was " + v, x -> x.hall(1, v), x -> x.hall(1, 5), v);
      e.answers("11: DRY stays with NEAR " + v, x -> x.hall(1, v), x -> x.count(5), 30);
    }
  }

  private static void barsRange() {
    e.range("12: n", Edges.NEW, (x, v) -> x.bars(v), Edges.at(1, 4), Edges.at(24, 4));
    e.range("12: n, from 1", x -> x.bars(1), (x, v) -> x.bars(v), Edges.at(1, 1), Edges.at(24, 1));
    e.range("12: n, from 24", x -> x.bars(24), (x, v) -> x.bars(v), Edges.at(1, 24), Edges.at(24, 24));
    e.range("12: n, among others", Edges::furnish, (x, v) -> x.bars(v), Edges.at(1, 4), Edges.at(24, 4));
    e.alike("12: as many as there are", Edges.then(Edges::furnish, x -> x.bars(4)), Edges::furnish);
  }

  private static void barsThatAreNew() {
    Edges.Calls loud = x -> {
      x.bars(24);
      for (int bar = 0; bar < 24; bar++) {
        x.loud(bar, 70 + bar);
      }
    };
    for (int less : new int[] {1, 2, 12, 23}) {
      Edges.Calls again = Edges.then(loud, x -> {
        x.bars(less);
        x.bars(24);
      });
      e.answers("12: the last that stayed, of " + less, again, x -> x.music(less - 1), 70 + less - 1);
      e.answers("12: the first that is new, behind " + less, again, x -> x.music(less), 0);
      e.answers("12: the last that is new, behind " + less, again, x -> x.music(23), 0);
    }
    e.answers("12: one that is new by THE IMAGE's BARS", x -> {
      x.keep();
      loud.on(x);
      x.back();
      x.bars(24);
    }, x -> x.music(23), 0);
    e.answers("12: none is lost by a refused call", Edges.then(loud, x -> x.bars(25)), x -> x.music(23), 93);
  }

  private static void loudRanges() {
    e.range("13: BAR of 4", Edges.NEW, (x, v) -> x.loud(v, 5), Edges.at(0, 0), Edges.at(3, 0));
    e.range("13: BAR of 1", x -> x.bars(1), (x, v) -> x.loud(v, 5), Edges.at(0, 0), Edges.at(0, 0));
    e.range("13: BAR of 24", x -> x.bars(24), (x, v) -> x.loud(v, 5), Edges.at(0, 0), Edges.at(23, 0));
    e.range("13: BAR, fewer than there were", x -> {
      x.bars(24);
      x.bars(2);
    }, (x, v) -> x.loud(v, 5), Edges.at(0, 0), Edges.at(1, 0));
    e.range("13: LOUD", Edges::furnish, (x, v) -> x.loud(3, v), Edges.at(0, 63), Edges.at(99, 63));
    e.answers("13: LOUD is 0", Edges.then(Edges::furnish, x -> x.loud(3, 0)), x -> x.loud(3, 1), 0);
    e.answers("13: LOUD is 99", Edges.then(Edges::furnish, x -> x.loud(3, 99)), x -> x.loud(3, 1), 99);
    e.refuses("13: BAD: both", Edges::furnish, x -> x.loud(4, 100), BAD);
  }

  private static Edges.Calls tune(int bars) {
    return x -> {
      x.bars(bars);
      for (int bar = 0; bar < bars; bar++) {
        x.loud(bar, 10 + bar);
      }
    };
  }

  private static void musicRange() {
    e.range("14: t", tune(4), (x, v) -> x.music(v), Edges.at(0, 10), Edges.at(99, 13));
    e.range("14: t, among others", Edges::furnish, (x, v) -> x.music(v), Edges.at(0, 63), Edges.at(99, 43));
  }

  private static void musicRound() {
    for (int bars : new int[] {1, 2, 4, 23, 24}) {
      e.answers("14: the last of " + bars, tune(bars), x -> x.music(bars - 1), 9 + bars);
      e.answers("14: round, of " + bars, tune(bars), x -> x.music(bars), 10);
      e.answers("14: round again, of " + bars, tune(bars), x -> x.music(2 * bars), 10);
      e.answers("14: ahead of round again, of " + bars, tune(bars), x -> x.music(2 * bars - 1), 9 + bars);
      e.answers("14: 99 on, of " + bars, tune(bars), x -> x.music(99), 10 + 99 % bars);
      Edges.Calls inTheLast = Edges.then(tune(bars), x -> x.run(bars == 1 ? 5 : bars - 1));
      e.answers("14: in the last BAR, of " + bars, inTheLast, x -> x.music(0), 9 + bars);
      e.answers("14: right behind it, of " + bars, inTheLast, x -> x.music(1), 10);
    }
    e.answers("14: other BARS in the same SECOND", x -> {
      tune(4).on(x);
      x.run(7);
      x.bars(3);
    }, x -> x.music(0), 11);
  }

  private static void musicInTheLastSecond() {
    Edges.Calls last = x -> {
      x.bars(7);
      for (int bar = 0; bar < 7; bar++) {
        x.loud(bar, bar);
      }
      Edges.runTo(x, Edges.LAST_SECOND);
    };
    e.answers("14: in the last second", last, x -> x.music(0), 99999 % 7);
    e.answers("14: right behind it", last, x -> x.music(1), 100000 % 7);
    e.answers("14: 99 behind it", last, x -> x.music(99), 100098 % 7);
  }
}
