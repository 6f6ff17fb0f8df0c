/** Answers worked out by hand from the document, promise by promise. */
public final class PromisesTest {
  private static final int BAD = -1000000001, NO = -1000000002, FULL = -1000000003, NONE = -1000000005,
      NOTHING = -1000000011, KIND = -1000000012, INDEX = -1000000013, SIZE = -1000000014;
  private static final int MIN = Integer.MIN_VALUE, MAX = Integer.MAX_VALUE;
  private static final Due d = new Due();

  public static void main(String[] args) {
    aNewObject();
    person();
    told();
    letsGo();
    as();
    turns();
    set();
    move();
    onSeat();
    deal();
    seed();
    hall();
    bars();
    loud();
    music();
    run();
    runToTheLast();
    did();
    behind();
    first();
    rest();
    change();
    sweet();
    setOff();
    loudest();
    toldBy();
    fine();
    feed();
    trim();
    text();
    faults();
    worth();
    textTold();
    why();
    sheet();
    mark();
    pour();
    reads();
    copy();
    lay();
    ask();
    item();
    remains();
    tell();
    check();
    keep();
    back();
    count();
    d.end();
  }

  private static void due(String call, long got, long want) {
    d.due(call, got, want);
  }

  private static void aNewObject() {
    HallCoughs x = new HallCoughs();
    int[] counts = {0, 4, 0, 0, 0, 30, 3, 0, 0, 0, 1};
    for (int what = 0; what < counts.length; what++) {
      due("1: count(" + what + ")", x.count(what), counts[what]);
    }
    due("1: did()", x.did(), 0);
    due("1: back()", x.back(), NO);
    for (int k = 0; k < 4; k++) {
      due("1: music", x.music(k), 0);
      due("1: reads", x.reads(k), NOTHING);
    }
    for (int k = 0; k < 5; k++) {
      due("1: item", x.item(k, 0), NOTHING);
    }
    for (int seat = 0; seat < 30; seat++) {
      due("1: onSeat", x.onSeat(seat), NONE);
    }
  }

  private static void person() {
    HallCoughs x = new HallCoughs();
    due("2: first", x.person(5, 29, 99), 0);
    due("2: second", x.person(0, 0, 0), 1);
    due("2: kind below", x.person(-1, 1, 1), BAD);
    due("2: kind above", x.person(6, 1, 1), BAD);
    due("2: seat below", x.person(0, -1, 1), BAD);
    due("2: seat above", x.person(0, 30, 1), BAD);
    due("2: age below", x.person(0, 1, -1), BAD);
    due("2: age above", x.person(0, 1, 100), BAD);
    due("2: BAD ahead of NO", x.person(0, 29, 100), BAD);
    due("2: NO", x.person(0, 29, 1), NO);
    due("2: nobody came", x.count(0), 2);
    for (int p = 2; p < 10; p++) {
      due("2: more", x.person(0, p, 1), p);
    }
    due("2: NO ahead of FULL", x.person(0, 0, 1), NO);
    due("2: BAD ahead of FULL", x.person(6, 20, 1), BAD);
    due("2: FULL", x.person(0, 20, 1), FULL);
    due("2: ten", x.count(0), 10);
    int[] last = {0, 9, 1, 0, 0, 0};
    for (int what = 0; what < last.length; what++) {
      due("2: the last one's " + what, x.told(9, what), last[what]);
    }
  }

  private static void told() {
    HallCoughs x = new HallCoughs();
    int[] worth = {99, 11, 78, 22, 93, 7};
    int[] ages = {99, 7, 22, 7, 1, 50};
    for (int kind = 0; kind < 6; kind++) {
      x.person(kind, kind == 5 ? 7 : kind, ages[kind]);
      due("3: WORTH", x.told(kind, 8), worth[kind]);
    }
    due("3: a BORED one's WORTH below 0", x.set(4, 2, 99), 1);
    due("3: a BORED one's WORTH below 0", x.told(4, 8), -5);
    due("3: GROWS of 99", x.told(0, 6), 1 + 4 + 3);
    due("3: GROWS of 22", x.told(2, 6), 1 + 1 + 3);
    x.hall(0, 99);
    due("3: GROWS when dry", x.told(0, 6), 14);
    x.hall(0, 9);
    due("3: GROWS when not dry", x.told(1, 6), 1);
    x.set(0, 4, 1);
    due("3: GROWS with a SWEET", x.told(0, 6), 0);
    due("3: SWEET", x.told(0, 4), 1);
    x.set(0, 3, 999);
    due("3: ITCH", x.told(0, 3), 999);
    due("3: what below", x.told(0, -1), BAD);
    due("3: what above", x.told(0, 9), BAD);
    due("3: person above", x.told(6, 0), BAD);
    due("3: person below", x.told(-1, 0), BAD);
    Due.tellText(x, "itch 0-5");
    due("3: GROWS held at 0", x.told(1, 6), 0);
    Due.tellText(x, "itch 100");
    due("3: GROWS held at 99", x.told(1, 6), 99);
    Due.tellText(x, "itch i/10+d+a");
    due("3: GROWS by a TEXT", x.told(2, 6), 31);
  }

  private static int letsGoNow(int kind, int itch, int loud) {
    HallCoughs x = new HallCoughs();
    x.person(kind, 4, 33);
    x.set(0, 3, itch);
    x.loud(0, loud);
    return x.told(0, 7);
  }

  private static void letsGo() {
    int[][] rows = {{0, 99, 0, 0}, {0, 100, 99, 1}, {1, 99, 0, 0}, {1, 100, 0, 1}, {1, 100, 1, 0}, {1, 199, 1, 0}, {1, 200, 99, 1},
        {3, 99, 0, 0}, {3, 100, 0, 1}, {3, 199, 1, 0}, {3, 200, 1, 1},
        {2, 99, 50, 0}, {2, 100, 50, 1}, {2, 100, 49, 0}, {2, 199, 0, 0}, {2, 200, 0, 1},
        {4, 99, 50, 0}, {4, 100, 50, 1}, {4, 100, 49, 0}, {4, 200, 0, 1}, {5, 999, 0, 0}};
    for (int[] row : rows) {
      due("3: LETS GO of kind " + row[0] + ", ITCH " + row[1] + ", LOUD " + row[2], letsGoNow(row[0], row[1], row[2]), row[3]);
    }
    HallCoughs x = new HallCoughs();
    x.person(4, 0, 61);
    x.person(5, 1, 0);
    x.hall(0, 0);
    due("3: BORED not yet", x.told(0, 7), 0);
    due("3: SIGN not yet", x.told(1, 7), 0);
    x.run(1);
    due("3: BORED, its second by 60", x.told(0, 7), 1);
    due("3: SIGN, its second by 30", x.told(1, 7), 1);
    x.set(0, 3, 0);
    due("3: BORED, but no ITCH", x.told(0, 7), 0);
    x.run(30);
    due("3: BORED is by 60", x.told(0, 7), 0);
    due("3: SIGN is by 30", x.told(1, 7), 1);
    x.run(30);
    x.set(0, 3, 1);
    due("3: BORED again", x.told(0, 7), 1);
    follower();
  }

  private static void follower() {
    HallCoughs x = new HallCoughs();
    x.loud(1, 10);
    x.person(3, 10, 0);
    x.person(0, 13, 0);
    x.person(3, 17, 0);
    x.set(1, 3, 100);
    x.set(0, 3, 46);
    x.set(2, 3, 90);
    due("3: only the COUGHER did", x.run(1), 1);
    due("3: FOLLOWER at 50 with one 3 apart", x.told(0, 7), 1);
    due("3: 4 apart is too far", x.told(2, 7), 0);
    x.set(0, 3, 49);
    due("3: FOLLOWER at 49", x.told(0, 7), 0);
    x.set(0, 3, 50);
    x.hall(1, 2);
    due("3: NEAR 2", x.told(0, 7), 0);
    x.hall(1, 4);
    due("3: NEAR 4", x.told(2, 7), 1);
    HallCoughs y = new HallCoughs();
    y.person(3, 5, 0);
    y.set(0, 3, 999);
    y.loud(1, 1);
    y.run(1);
    y.set(0, 3, 60);
    due("3: not by itself", y.told(0, 7), 0);
  }

  private static void as() {
    HallCoughs x = new HallCoughs();
    String[] under = {"0", "01", "02", "013", "024", "05"};
    for (int kind = 0; kind < 6; kind++) {
      x.person(kind, kind, 10 + kind);
      for (int k = 0; k < 6; k++) {
        due("4: " + kind + " as " + k, x.as(kind, k), under[kind].indexOf('0' + k) >= 0 ? 10 + kind : KIND);
      }
    }
    due("4: person", x.as(6, 0), BAD);
    due("4: person", x.as(-1, 0), BAD);
    due("4: kind", x.as(0, 6), BAD);
    due("4: kind", x.as(0, -1), BAD);
  }

  private static void turns() {
    HallCoughs x = new HallCoughs();
    x.person(3, 8, 50);
    x.set(0, 3, 77);
    due("5: turns", x.turns(0, 5), 3);
    due("5: is it", x.told(0, 0), 5);
    due("5: WORTH", x.told(0, 8), 8);
    due("5: ITCH stays", x.told(0, 3), 77);
    due("5: the same again", x.turns(0, 5), 5);
    due("5: kind", x.turns(0, 6), BAD);
    due("5: kind", x.turns(0, -1), BAD);
    due("5: person", x.turns(1, 0), BAD);
    due("5: nothing changed", x.told(0, 0), 5);
  }

  private static void set() {
    HallCoughs x = new HallCoughs();
    x.person(0, 1, 5);
    int[][] tops = {{2, 99}, {3, 999}, {4, 99}};
    for (int[] top : tops) {
      int was = x.told(0, top[0]);
      due("6: what it was", x.set(0, top[0], top[1]), was);
      due("6: is", x.told(0, top[0]), top[1]);
      due("6: above", x.set(0, top[0], top[1] + 1), BAD);
      due("6: below", x.set(0, top[0], -1), BAD);
      due("6: stays", x.told(0, top[0]), top[1]);
      due("6: back to 0", x.set(0, top[0], 0), top[1]);
    }
    due("6: what", x.set(0, 1, 3), BAD);
    due("6: what", x.set(0, 5, 3), BAD);
    due("6: person", x.set(1, 3, 3), BAD);
    due("6: SEAT stays", x.told(0, 1), 1);
    due("6: COUGHS stay", x.told(0, 5), 0);
  }

  private static void move() {
    HallCoughs x = new HallCoughs();
    x.person(0, 1, 5);
    x.person(0, 2, 5);
    due("7: where it was", x.move(0, 29), 1);
    due("7: where it is", x.move(0, 29), 29);
    due("7: another one's", x.move(0, 2), NO);
    due("7: another one's", x.move(1, 29), NO);
    due("7: seat", x.move(0, 30), BAD);
    due("7: seat", x.move(0, -1), BAD);
    due("7: person", x.move(2, 3), BAD);
    due("7: BAD ahead of NO", x.move(-1, 2), BAD);
    due("7: stays", x.told(0, 1), 29);
    due("7: its old one is free", x.move(1, 1), 2);
  }

  private static void onSeat() {
    HallCoughs x = new HallCoughs();
    x.person(0, 0, 5);
    x.person(0, 29, 5);
    due("8: 0", x.onSeat(0), 0);
    due("8: 29", x.onSeat(29), 1);
    due("8: nobody", x.onSeat(1), NONE);
    due("8: below", x.onSeat(-1), BAD);
    due("8: above", x.onSeat(30), BAD);
    x.move(0, 1);
    due("8: left", x.onSeat(0), NONE);
    due("8: came", x.onSeat(1), 0);
  }

  private static int z(int z, int draws) {
    return draws == 0 ? z : z(z * 1103515245 + 12345, draws - 1);
  }

  private static void deal() {
    HallCoughs x = new HallCoughs();
    due("9: below", x.deal(0), BAD);
    due("9: above", x.deal(11), BAD);
    due("9: no draws yet", x.count(10), 1);
    due("9: one", x.deal(1), 1);
    due("9: KIND", x.told(0, 0), (z(1, 1) >>> 8) % 6);
    due("9: AGE", x.told(0, 2), (z(1, 2) >>> 8) % 100);
    due("9: SEAT", x.told(0, 1), (z(1, 3) >>> 8) % 30);
    due("9: z", x.count(10), z(1, 3));
    x.seed(1);
    due("9: the same again", x.deal(1), 1);
    due("9: KIND", x.told(1, 0), x.told(0, 0));
    due("9: the next SEAT, round", x.told(1, 1), (x.told(0, 1) + 1) % 30);
    x.seed(77);
    due("9: as many as there is room for", x.deal(10), 8);
    due("9: no draws for others", x.count(10), z(77, 24));
    due("9: no room", x.deal(3), 0);
    due("9: no draws", x.count(10), z(77, 24));
    due("9: ten", x.count(0), 10);
    dealRound();
  }

  private static void dealRound() {
    int z = 0;
    while ((z(z, 3) >>> 8) % 30 != 29) {
      z++;
    }
    HallCoughs x = new HallCoughs();
    x.person(0, 29, 1);
    x.person(0, 0, 1);
    x.seed(z);
    x.deal(1);
    due("9: from 29 round to 1", x.told(2, 1), 1);
  }

  private static void seed() {
    HallCoughs x = new HallCoughs();
    due("10: at first", x.seed(MIN), 1);
    due("10: then", x.seed(BAD), MIN);
    due("10: any", x.seed(0), BAD);
    due("10: z", x.count(10), 0);
  }

  private static void hall() {
    HallCoughs x = new HallCoughs();
    due("11: DRY", x.hall(0, 99), 30);
    due("11: DRY", x.hall(0, 0), 99);
    due("11: NEAR", x.hall(1, 9), 3);
    due("11: NEAR", x.hall(1, 0), 9);
    due("11: DRY above", x.hall(0, 100), BAD);
    due("11: DRY below", x.hall(0, -1), BAD);
    due("11: NEAR above", x.hall(1, 10), BAD);
    due("11: NEAR below", x.hall(1, -1), BAD);
    due("11: what", x.hall(2, 1), BAD);
    due("11: what", x.hall(-1, 1), BAD);
    due("11: DRY stays", x.count(5), 0);
    due("11: NEAR stays", x.count(6), 0);
  }

  private static void bars() {
    HallCoughs x = new HallCoughs();
    x.loud(3, 7);
    due("12: 24", x.bars(24), 4);
    due("12: it stays", x.music(3), 7);
    due("12: a new one", x.loud(23, 9), 0);
    due("12: 1", x.bars(1), 24);
    due("12: 24 again", x.bars(24), 1);
    due("12: new ones with 0", x.music(3), 0);
    due("12: new ones with 0", x.music(23), 0);
    due("12: below", x.bars(0), BAD);
    due("12: above", x.bars(25), BAD);
    due("12: far", x.bars(MIN), BAD);
    due("12: stays", x.count(1), 24);
  }

  private static void loud() {
    HallCoughs x = new HallCoughs();
    due("13: what it was", x.loud(3, 99), 0);
    due("13: what it was", x.loud(3, 0), 99);
    due("13: bar", x.loud(4, 1), BAD);
    due("13: bar", x.loud(-1, 1), BAD);
    due("13: v", x.loud(3, 100), BAD);
    due("13: v", x.loud(3, -1), BAD);
    due("13: stays", x.music(3), 0);
  }

  private static void music() {
    HallCoughs x = new HallCoughs();
    x.bars(3);
    for (int k = 0; k < 3; k++) {
      x.loud(k, 10 + k);
    }
    due("14: now", x.music(0), 10);
    due("14: round", x.music(99), 10);
    due("14: round", x.music(98), 12);
    x.run(2);
    due("14: two later", x.music(0), 12);
    due("14: two later, then one", x.music(1), 10);
    due("14: below", x.music(-1), BAD);
    due("14: above", x.music(100), BAD);
  }

  private static void run() {
    HallCoughs x = new HallCoughs();
    x.person(0, 0, 40); // GROWS 6
    x.set(0, 3, 88);
    due("15: 94 is too little", x.run(1), 0);
    due("15: 100 is enough", x.run(1), 1);
    due("15: ITCH", x.told(0, 3), 0);
    due("15: COUGHS", x.told(0, 5), 1);
    due("15: HARM", x.count(4), 60);
    due("15: THE SECOND", x.count(2), 2);
    due("15: 17 for a cough", x.run(200), 11);
    due("15: ITCH", x.told(0, 3), 6 * (200 - 17 * 11));
    due("15: below", x.run(0), BAD);
    due("15: above", x.run(201), BAD);
    due("15: THE SECOND", x.count(2), 202);
    runLoud();
    runSweet();
  }

  private static void runLoud() {
    int[][] rows = {{0, 120}, {59, 2}, {60, 0}, {99, 0}};
    for (int[] row : rows) {
      HallCoughs x = new HallCoughs();
      x.person(0, 0, 0);
      x.person(0, 1, 0);
      x.set(0, 3, 99);
      x.set(1, 3, 99);
      x.loud(0, row[0]);
      due("15: two cough", x.run(1), 2);
      due("15: HARM with LOUD " + row[0], x.count(4), row[1]);
    }
    HallCoughs x = new HallCoughs();
    x.person(0, 0, 0);
    x.set(0, 3, 999);
    x.loud(0, 7);
    Due.tellText(x, "harm n*1000+l");
    x.run(1);
    due("15: HARM by a TEXT", x.count(4), 1007);
    x.run(1);
    due("15: no HARM without a cough", x.count(4), 1007);
    Due.tellText(x, "harm 0-9");
    x.set(0, 3, 999);
    x.run(1);
    due("15: HARM held at 0", x.count(4), 1007);
    Due.tellText(x, "harm 9999*9");
    x.set(0, 3, 999);
    x.run(1);
    due("15: HARM held at 9999", x.count(4), 11006);
    HallCoughs y = new HallCoughs();
    y.person(5, 29, 99);
    y.set(0, 3, 995);
    y.run(1);
    due("15: ITCH is 999 at most", y.told(0, 3), 999);
  }

  private static void runSweet() {
    HallCoughs x = new HallCoughs();
    x.person(0, 0, 0); // GROWS 4
    x.set(0, 4, 2);
    x.run(1);
    due("15: a SWEET lasts", x.told(0, 4), 1);
    due("15: and helps", x.told(0, 3), 0);
    x.run(1);
    due("15: its last second helps too", x.told(0, 3), 0);
    due("15: it is gone", x.told(0, 4), 0);
    x.run(1);
    due("15: then not", x.told(0, 3), 4);
    due("15: none below 0", x.told(0, 4), 0);
    x.set(0, 3, 100);
    x.set(0, 4, 9);
    due("15: it does not keep one from coughing", x.run(1), 1);
  }

  private static void runToTheLast() {
    HallCoughs x = new HallCoughs();
    x.person(5, 15, 0); // coughs in second 15, 45, ..
    int coughs = 0;
    for (int k = 0; k < 499; k++) {
      coughs += x.run(200);
    }
    due("15: SECOND", x.count(2), 99800);
    coughs += x.run(184);
    due("15: SECOND", x.count(2), 99984);
    x.keep();
    due("15: up to 99999", x.run(200), 0);
    due("15: SECOND", x.count(2), 99999);
    due("15: no more", x.run(1), 0);
    due("15: SECOND", x.count(2), 99999);
    due("17: beyond it in thought", x.behind(31, 0), coughs + 1);
    due("18: beyond it in thought", x.first(), 7);
  }

  private static void did() {
    HallCoughs x = new HallCoughs();
    for (int p = 0; p < 10; p++) {
      x.person(0, p, 0);
      x.set(p, 3, p % 3 == 0 ? 999 : 0);
    }
    due("16: nobody yet", x.did(), 0);
    x.run(1);
    due("16: 0, 3, 6, 9", x.did(), 1 + 8 + 64 + 512);
    x.move(0, 20);
    due("16: it stays", x.did(), 585);
    x.run(1);
    due("16: nobody", x.did(), 0);
  }

  private static void behind() {
    HallCoughs x = new HallCoughs();
    due("17: without people", x.behind(200, 2), 0);
    x.person(0, 0, 40);
    x.person(1, 1, 0);
    due("17: the greatest is that of 0", x.behind(5, 2), 30);
    x.set(0, 3, 94);
    x.run(1);
    due("17: now", x.behind(0, 0), 1);
    due("17: now", x.behind(0, 1), 60);
    due("17: now", x.behind(0, 2), 4);
    due("17: 17 on", x.behind(17, 0), 2);
    due("17: 17 on", x.behind(17, 1), 120);
    due("17: 17 on", x.behind(17, 2), 72);
    due("17: below", x.behind(-1, 0), BAD);
    due("17: above", x.behind(201, 0), BAD);
    due("17: what", x.behind(1, 3), BAD);
    due("17: what", x.behind(1, -1), BAD);
    due("17: nothing changed", x.count(2), 1);
    due("17: nothing changed", x.count(3), 1);
    due("17: nothing changed", x.told(0, 3), 0);
    due("17: nothing changed", x.did(), 1);
  }

  private static void first() {
    HallCoughs x = new HallCoughs();
    due("18: nobody", x.first(), NONE);
    x.person(0, 0, 0);
    due("18: 4 each", x.first(), 25);
    x.set(0, 3, 96);
    due("18: at once", x.first(), 1);
    Due.tellText(x, "itch 0");
    due("18: never", x.first(), NONE);
    HallCoughs y = new HallCoughs();
    y.person(0, 0, 0);
    Due.tellText(y, "itch 1");
    due("18: in the 100th", y.first(), 100);
    y.set(0, 4, 99);
    due("18: in the 199th", y.first(), 199);
    y.person(0, 1, 0);
    y.set(1, 4, 98);
    due("18: the first of two", y.first(), 198);
    due("18: nothing changed", y.count(2), 0);
    HallCoughs s = new HallCoughs();
    s.person(0, 0, 0);
    s.set(0, 4, 99);
    Due.tellText(s, "itch 1-(i=0&d=31)"); // with DRY 31 it never begins
    due("18: in the 199th", s.first(), 199);
    s.hall(0, 31);
    due("18: never", s.first(), NONE);
    edgeOfFirst();
  }

  /** A KEEPER with a long SWEET has ITCH 100 in the 199th SECOND and waits for the next rest in the music. */
  private static void edgeOfFirst() {
    HallCoughs x = new HallCoughs();
    x.person(1, 0, 0);
    x.set(0, 4, 99);
    Due.tellText(x, "itch 1");
    x.bars(24);
    for (int b = 0; b < 24; b++) {
      x.loud(b, 1);
    }
    x.loud(199 % 24, 0);
    due("18: in the 200th", x.first(), 200);
    x.loud(199 % 24, 1);
    x.loud(200 % 24, 0);
    due("18: the 201st is too late", x.first(), NONE);
    x.run(1);
    due("18: from now on", x.first(), 200);
  }

  private static void rest() {
    HallCoughs x = new HallCoughs();
    x.bars(2);
    x.loud(0, 99);
    x.loud(1, 60);
    x.person(0, 0, 99);
    x.set(0, 3, 99);
    due("19: it coughs now, so the other BAR", x.rest(1), 1);
    x.loud(1, 0);
    due("19: that one still", x.rest(1), 1);
    x.loud(0, 0);
    due("19: all alike", x.rest(1), 0);
    x.loud(0, 99);
    x.run(1);
    x.set(0, 3, 99);
    due("19: it coughs in BAR 1, so BAR 0", x.rest(1), 0);
    due("19: nothing changed", x.music(1), 99);
    due("19: below", x.rest(0), BAD);
    due("19: above", x.rest(61), BAD);
    due("19: the most", x.rest(60) >= 0 ? 0 : 1, 0);
    HallCoughs k = new HallCoughs();
    k.bars(3);
    for (int b = 0; b < 3; b++) {
      k.loud(b, 50);
    }
    k.person(1, 0, 0); // a KEEPER at 196 bursts in the first second, HARM 10, and in a rest there HARM 60
    k.set(0, 3, 196);
    due("19: a rest elsewhere", k.rest(1), 1);
  }

  private static void change() {
    HallCoughs x = new HallCoughs();
    due("20: nobody", x.change(1), NONE);
    x.person(5, 5, 0);
    due("20: one", x.change(40), NONE);
    x.person(0, 20, 0);
    due("20: two", x.change(10), 1);
    x.person(0, 6, 0);
    x.person(0, 12, 0);
    due("20: the first that takes the SIGN off SEAT 5 and 6", x.change(10), 1);
    x.move(1, 7);
    due("20: 0 with 3 alone", x.change(10), 3);
    due("20: in 1 all alike", x.change(1), 1);
    due("20: below", x.change(0), BAD);
    due("20: above", x.change(41), BAD);
    due("20: seats stay", x.told(0, 1), 5);
    due("20: seats stay", x.told(3, 1), 12);
    HallCoughs y = new HallCoughs();
    for (int p = 0; p < 9; p++) {
      y.person(0, p + 20, 0);
    }
    y.person(5, 2, 0);
    due("20: with the last one", y.change(5), 9);
    y.turns(9, 0);
    y.turns(8, 5);
    y.move(8, 3);
    y.move(9, 4);
    due("20: 0 with 8", y.change(5), 8);
    HallCoughs z = new HallCoughs();
    z.person(0, 1, 0);
    z.person(5, 2, 0);
    z.person(0, 20, 0);
    due("20: 1 with 2 is not the first", z.change(3), 102);
  }

  private static void sweet() {
    HallCoughs x = new HallCoughs();
    due("21: nobody", x.sweet(1), NONE);
    x.person(0, 0, 0);
    x.person(0, 1, 99);
    x.person(0, 2, 99);
    due("21: all alike in 1", x.sweet(1), 0);
    due("21: the first of the old in 13", x.sweet(13), 1);
    x.set(1, 3, 100);
    x.loud(0, 60);
    x.loud(1, 60);
    x.loud(2, 60);
    x.loud(3, 60);
    due("21: no HARM at all", x.sweet(60), 0);
    due("21: below", x.sweet(0), BAD);
    due("21: above", x.sweet(61), BAD);
    due("21: none was given", x.told(1, 4), 0);
    HallCoughs y = new HallCoughs();
    y.person(0, 0, 99);
    y.person(0, 1, 99);
    y.set(0, 4, 99); // 40 instead of 99 would be worse for 0: it itches again by 53
    due("21: 40, even where there was more", y.sweet(60), 1);
    HallCoughs z = new HallCoughs();
    z.person(0, 0, 0);
    z.person(0, 1, 0);
    z.set(1, 3, 1);
    z.set(1, 4, 39);
    Due.tellText(z, "itch a+99");
    Due.tellText(z, "harm n=2");
    // with just 40, 0 would cough in the 42nd, 44th .. together with 1; with 40 for 1 they never do
    due("21: just 40", z.sweet(60), 1);
  }

  private static void setOff() {
    HallCoughs x = new HallCoughs();
    x.person(0, 0, 0);
    x.person(3, 1, 0);
    x.loud(1, 9);
    x.set(0, 3, 99);
    x.set(1, 3, 60);
    due("22: none in the first", x.setOff(1, 0, 1), 0);
    due("22: one in two", x.setOff(1, 0, 2), 1);
    due("22: not the other way", x.setOff(0, 1, 2), 0);
    x.run(1);
    due("22: by DID", x.setOff(1, 0, 1), 1);
    due("22: itself", x.setOff(1, 1, 1), BAD);
    due("22: p", x.setOff(2, 1, 1), BAD);
    due("22: q", x.setOff(1, -1, 1), BAD);
    due("22: below", x.setOff(1, 0, 0), BAD);
    due("22: above", x.setOff(1, 0, 201), BAD);
    due("22: nothing changed", x.count(2), 1);
    due("22: nothing changed", x.did(), 1);
    HallCoughs y = new HallCoughs();
    y.person(5, 3, 0);
    y.person(5, 4, 0);
    due("22: one sign behind the other, each 30", y.setOff(1, 0, 200), 7);
  }

  private static void loudest() {
    HallCoughs x = new HallCoughs();
    due("23: nobody", x.loudest(), NONE);
    x.person(0, 0, 0);
    x.person(0, 1, 99);
    x.person(0, 2, 99);
    due("23: none yet", x.loudest(), 0);
    x.run(20);
    due("23: the first of the old", x.loudest(), 1);
  }

  private static void toldBy() {
    HallCoughs x = new HallCoughs();
    x.person(0, 2, 50);
    x.person(0, 25, 50);
    x.sheet(0, 0, 0);
    due("24: an empty SHEET", x.toldBy(0, 0, 0), 0);
    due("24: an empty SHEET", x.toldBy(0, 0, 1), 0);
    x.sheet(0, 0, 24);
    x.mark(0, 2, -7);
    due("24: a SIGN", x.toldBy(0, 0, 0), 5);
    due("24: in all", x.toldBy(0, 0, 1), 0);
    x.mark(0, 9, 1);
    due("24: a SIGN still", x.toldBy(0, 0, 0), 5);
    due("24: but for one", x.toldBy(0, 0, 1), 1);
    x.sheet(1, 1, 3);
    x.mark(1, 2, NONE);
    due("24: NO NUMBER: either", x.toldBy(1, 0, 0), 0);
    due("24: NO NUMBER: either", x.toldBy(1, 0, 1), 0);
    x.mark(1, 1, 5);
    due("24: one wrong", x.toldBy(1, 0, 1), 1);
    due("24: NOTHING", x.toldBy(2, 0, 0), NOTHING);
    due("24: BAD ahead of it", x.toldBy(2, 2, 0), BAD);
    due("24: what", x.toldBy(2, 0, 2), BAD);
    due("24: what", x.toldBy(0, 0, -1), BAD);
    due("24: sheet", x.toldBy(4, 0, 0), BAD);
    due("24: sheet", x.toldBy(-1, 0, 0), BAD);
    due("24: nothing changed", x.told(0, 0), 0);
    due("24: nothing changed", x.count(2), 0);
    toldByFollower();
  }

  private static void toldByFollower() {
    HallCoughs x = new HallCoughs();
    x.bars(1);
    x.loud(0, 20);
    x.person(0, 0, 0);
    x.person(0, 1, 1);
    x.set(0, 3, 99);
    x.set(1, 3, 50);
    x.sheet(3, 0, 3);
    x.mark(3, 1, 1);
    due("24: a FOLLOWER; a BORED one would cough then too, but comes behind it", x.toldBy(3, 1, 0), 3);
    x.set(0, 3, 0);
    due("24: a BORED one", x.toldBy(3, 1, 0), 4);
    due("24: in all", x.toldBy(3, 1, 1), 0);
  }

  private static void fine() {
    HallCoughs x = new HallCoughs();
    x.person(0, 0, 0);
    x.person(0, 1, 99);
    x.run(25);
    due("25: COUGHS", x.fine(0), 1);
    due("25: COUGHS", x.fine(1), 1);
    Due.tellText(x, "fine h*2+c");
    due("25: by a TEXT", x.fine(1), 241);
    Due.tellText(x, "fine 0-h");
    due("25: below 0", x.fine(0), -120);
    due("25: person", x.fine(2), BAD);
    due("25: person", x.fine(-1), BAD);
  }

  private static void feed() {
    HallCoughs x = new HallCoughs();
    for (int k = 1; k <= 8; k++) {
      due("26: how many", x.feed(MIN, -1, 0), 12 * k);
    }
    due("26: FULL", x.feed(0, 0, 0), FULL);
    due("26: stays", x.count(9), 96);
    x.trim(85);
    due("26: 85 and 12", x.feed(0, 0, 0), FULL);
    x.trim(84);
    due("26: 84 and 12", x.feed(0, 0, 0), 96);
    x.trim(0);
    x.feed(0x69746368, 0x20313233, 0x34202020);
    due("26: the highest first", x.text(), 0);
    x.person(0, 0, 0);
    due("26: itch 1234", x.told(0, 6), 99);
  }

  private static void trim() {
    HallCoughs x = new HallCoughs();
    due("27: none", x.trim(0), 0);
    due("27: too many", x.trim(1), BAD);
    x.feed(0x69746368, 0x20612b64, 0x2b692b69);
    due("27: more than there are", x.trim(13), BAD);
    due("27: below", x.trim(-1), BAD);
    due("27: stays", x.count(9), 12);
    due("27: all", x.trim(12), 12);
    due("27: six", x.trim(6), 6);
    due("27: its first ones", x.text(), 0);
    x.person(0, 0, 7);
    due("27: itch a", x.told(0, 6), 7);
  }

  private static void text() {
    HallCoughs x = new HallCoughs();
    for (int k = 0; k < 14; k++) {
      due("28: number", Due.tellText(x, "  itch" + (k % 2 == 0 ? "(" : " (") + "a ) "), k);
    }
    due("28: the tape is used up", x.count(9), 0);
    due("28: the FAULT ahead of FULL", Due.tellText(x, "itch"), -104);
    due("28: FULL", Due.tellText(x, "itch a"), FULL);
    due("28: the tape is used up", x.count(9), 0);
    due("28: fourteen", x.count(7), 14);
  }

  private static void faults() {
    Object[][] rows = {{"", 0}, {"   ", 3}, {"itch", 4}, {"itch  ", 6}, {"itches a", 0}, {"itchz", 0}, {"itcha", 0}, {"aitch a", 0}, {"etch a", 0}, {"farm n", 0}, {"line c", 0}, {"itcz a", 0}, {" Itch a", 1}, {"hall n", 0}, {"7", 0},
        {"itch1", 4}, {"itch 1a", 6}, {"itch a1", 6}, {"itch aa", 5}, {"itch a a", 7}, {"itch 12345", 5}, {"itch 1+00001", 7},
        {"itch n", 5}, {"harm a", 5}, {"harm h", 5}, {"fine n", 5}, {"fine l", 5}, {"itch i itch", 7}, {"itch itch", 5},
        {"itch a<d<i", 8}, {"itch a=d>i", 8}, {"itch a+", 7}, {"itch a++d", 7}, {"itch -1", 5}, {"itch +1", 5}, {"itch ()", 6},
        {"itch (a", 7}, {"itch (a ", 8}, {"itch (a))", 8}, {"itch a)", 6}, {"itch !", 6}, {"itch a!", 6}, {"itch a(d)", 6},
        {"itch (a<d<i)", 9}, {"itch a&&d", 7}, {"itch a|", 7}, {"itch a\t", 6}, {"itch\ta", 4}, {"itch a" + (char) 225, 6},
        {"itch a" + (char) 0, 6}, {"itch a.", 6}, {"itch *a", 5}, {"itch a*/d", 7}, {"itch 1 2", 7}, {"it ch a", 0},
        {"itch ((((((((a))))))))", null}, {"itch (((((((((a)))))))))", 13}, {"itch !!!!!!!!a", null}, {"itch !!!!!!!!!a", 13},
        {"itch (!(!(!(!(!(!(!(!a))))))))", null}, {"itch !(!(!(!(!(!(!(!(a))))))))", null},
        {"itch !(!(!(!(!(!(!(!(!a))))))))", 21}, {"itch !(!(!(!(!(!(!(!((a)))))))))", 21},
        {"itch ((((((((a))))))))+((((((((d))))))))", null}, {"itch !!!!!!!!a+!!!!!!!!d", null}, {"itch (a<d)<i", null},
        {"itch a<d&d<i|a=d", null}, {"itch 0009", null}, {"itch!a", null}, {"fine(c)", null}, {"harm n*l", null},
        {"itch !!!!(!!!!a+!!!!d)", null}, {"itch !!!!(!!!!a+!!!!!d)", 20}};
    for (Object[] row : rows) {
      HallCoughs x = new HallCoughs();
      String law = (String) row[0];
      due("28: " + law, Due.tellText(x, law), row[1] == null ? 0 : -100 - (Integer) row[1]);
      due("28: " + law + " is told or not", x.count(7), row[1] == null ? 1 : 0);
    }
    HallCoughs x = new HallCoughs();
    due("28: 96 bytes", Due.tellText(x, "itch " + "a+".repeat(45) + "a"), 0);
    due("28: 96 bytes", Due.tellText(x, "itch " + "a+".repeat(45) + " "), -196);
    due("28: all the signs of 96", x.textTold(0, 1), 46);
  }

  private static int value(String law) {
    HallCoughs x = new HallCoughs();
    x.person(0, 0, 0);
    x.set(0, 3, 999);
    x.run(1); // COUGHS 1, HARM 60
    Due.tellText(x, "fine " + law);
    return x.fine(0);
  }

  private static void worth() {
    Object[][] rows = {{"1+2*3", 7}, {"(1+2)*3", 9}, {"9-3-2", 4}, {"0-7/2", -3}, {"(0-7)/2", -3}, {"7/0", 0}, {"8/2/2", 2}, {"8/2*3", 12},
        {"1<2", 1}, {"2<1", 0}, {"2<2", 0}, {"2=2", 1}, {"2=3", 0}, {"2>1", 1}, {"2>2", 0}, {"1+1=2", 1}, {"0-1<1", 1}, {"5&7", 1}, {"5&0", 0},
        {"0|0", 0}, {"0|9", 1}, {"5|0&0", 1}, {"(5|0)&0", 0}, {"1|1&0", 1}, {"!0", 1}, {"!5", 0}, {"!!5", 1}, {"!0+1", 2}, {"!(0+1)", 0},
        {"2*!0", 2}, {"5", 5}, {"(5)", 5}, {"c", 1}, {"h", 60}, {"h+c*2", 62}, {"h/7", 8}, {"0-h/7", -8}, {"9999*9999", 99980001},
        {"9999*9999*9999", 9999 * 9999 * 9999}, {"9999*9999*99-1", 9999 * 9999 * 99 - 1}, {"0012", 12}, {"1-(2-3)", 2},
        {"1&2=2", 1}, {"2+2>3&!0", 1}, {"100/7*7", 98}};
    for (Object[] row : rows) {
      due("28: fine " + row[0], value((String) row[0]), (Integer) row[1]);
    }
    String least = "0-2048*2048*512"; // -2147483648
    due("28: ints wrap", value(least), MIN);
    due("28: ints wrap in / too", value("(" + least + ")/(0-1)"), MIN);
    due("28: ints wrap in - too", value(least + "-1"), MAX);
  }

  private static void textTold() {
    HallCoughs x = new HallCoughs();
    due("29: none", x.textTold(0, 0), BAD);
    Due.tellText(x, "harm !n+(12*l)");
    Due.tellText(x, "fine 7");
    Due.tellText(x, "itch a|a|a|1");
    int[][] rows = {{1, 3}, {2, 1}, {0, 4}};
    for (int k = 0; k < 3; k++) {
      due("29: KEY", x.textTold(k, 0), rows[k][0]);
      due("29: NUMBERS and NAMES", x.textTold(k, 1), rows[k][1]);
    }
    due("29: text", x.textTold(3, 0), BAD);
    due("29: text", x.textTold(-1, 0), BAD);
    due("29: what", x.textTold(0, 2), BAD);
    due("29: what", x.textTold(0, -1), BAD);
  }

  private static void why() {
    HallCoughs x = new HallCoughs();
    for (int key = 0; key < 3; key++) {
      due("30: none", x.why(key), NONE);
    }
    Due.tellText(x, "harm n");
    x.keep();
    Due.tellText(x, "itch a");
    Due.tellText(x, "harm l");
    Due.tellText(x, "harm x");
    due("30: itch", x.why(0), 1);
    due("30: the last one", x.why(1), 2);
    due("30: none", x.why(2), NONE);
    x.back();
    due("30: as it was", x.why(1), 0);
    due("30: as it was", x.why(0), NONE);
    due("30: key", x.why(3), BAD);
    due("30: key", x.why(-1), BAD);
  }

  private static void sheet() {
    HallCoughs x = new HallCoughs();
    due("31: shorts", x.sheet(0, 0, 24), 24);
    due("31: floats", x.sheet(3, 1, 0), 0);
    due("31: MISSING, n any", x.sheet(1, -1, MAX), 0);
    due("31: MISSING, n any", x.sheet(1, -1, MIN), 0);
    due("31: sheet", x.sheet(4, 0, 1), BAD);
    due("31: sheet", x.sheet(-1, -1, 1), BAD);
    due("31: sort", x.sheet(0, 2, 1), BAD);
    due("31: sort", x.sheet(0, -2, 1), BAD);
    due("31: n", x.sheet(0, 0, 25), BAD);
    due("31: SIZE", x.sheet(0, 0, -1), SIZE);
    due("31: BAD ahead of SIZE", x.sheet(0, 2, -1), BAD);
    x.mark(0, 0, 5);
    x.mark(0, 23, 5);
    x.sheet(0, 0, 24);
    x.lay(0, 2, 0);
    due("31: all 0", x.item(0, 0), 0);
    due("31: all 0", x.item(0, 23), 0);
    x.sheet(0, -1, 0);
    due("31: MISSING then", x.pour(0), NOTHING);
    due("31: but the SLOT's stays", x.item(0, 23), 0);
  }

  private static int marked(HallCoughs x, int sheet, int place) {
    x.lay(4, 2, sheet);
    return x.item(4, place);
  }

  private static void mark() {
    HallCoughs x = new HallCoughs();
    due("32: NOTHING", x.mark(0, 0, 0), NOTHING);
    x.sheet(0, 0, 2);
    x.sheet(1, 1, 2);
    due("32: sheet", x.mark(4, 0, 0), BAD);
    due("32: sheet", x.mark(-1, 0, 0), BAD);
    int[][] shorts = {{32767, 32767}, {32768, -32768}, {65536, 0}, {-1, -1}, {MIN, 0}, {MAX, -1}, {100000, -31072}};
    for (int[] row : shorts) {
      due("32: a short", x.mark(0, 1, row[0]), 1);
      due("32: its lowest 16 bits", marked(x, 0, 1), row[1]);
    }
    due("32: NONE", x.mark(0, 1, NONE), KIND);
    due("32: INDEX ahead of KIND", x.mark(0, 2, NONE), INDEX);
    due("32: INDEX", x.mark(0, -1, 1), INDEX);
    due("32: INDEX ahead of BAD", x.mark(1, 2, 100000), INDEX);
    for (int v : new int[] {99999, -99999, 0, 70001}) {
      due("32: a float", x.mark(1, 1, v), 1);
      due("32: as it is", marked(x, 1, 1), v);
    }
    due("32: above", x.mark(1, 1, 100000), BAD);
    due("32: below", x.mark(1, 1, -100000), BAD);
    due("32: MIN", x.mark(1, 1, MIN), BAD);
    due("32: stays", marked(x, 1, 1), 70001);
    due("32: NO NUMBER", x.mark(1, 1, NONE), 1);
    due("32: NO NUMBER", marked(x, 1, 1), KIND);
    due("32: the other stays", marked(x, 1, 0), 0);
  }

  private static void pour() {
    HallCoughs x = new HallCoughs();
    for (int b = 0; b < 4; b++) {
      x.loud(b, 10 + b);
    }
    due("33: NOTHING", x.pour(0), NOTHING);
    due("33: sheet", x.pour(4), BAD);
    due("33: sheet", x.pour(-1), BAD);
    x.sheet(0, 1, 3);
    x.mark(0, 0, -5);
    x.mark(0, 1, NONE);
    x.mark(0, 2, 5000);
    due("33: two", x.pour(0), 2);
    int[] louds = {0, 11, 99, 13};
    for (int b = 0; b < 4; b++) {
      due("33: LOUD", x.music(b), louds[b]);
    }
    due("33: none", x.pour(0), 0);
    x.sheet(0, 0, 0);
    due("33: an empty one", x.pour(0), 0);
    x.sheet(0, 0, 24);
    x.mark(0, 5, 50);
    due("33: longer than the BARS", x.pour(0), 3);
    x.bars(6);
    due("33: new BARS have 0", x.music(5), 0);
    due("33: the sixth", x.pour(0), 1);
    due("33: the sixth", x.music(5), 50);
  }

  private static void reads() {
    HallCoughs x = new HallCoughs();
    x.bars(2);
    x.loud(0, 5);
    x.loud(1, 7);
    due("34: NOTHING", x.reads(1), NOTHING);
    due("34: sheet", x.reads(4), BAD);
    due("34: sheet", x.reads(-1), BAD);
    x.sheet(1, 1, 0);
    due("34: an empty one", x.reads(1), NONE);
    x.sheet(1, 1, 4);
    due("34: at once", x.reads(1), 0);
    x.mark(1, 0, NONE);
    due("34: NO NUMBER does not count", x.reads(1), 1);
    x.mark(1, 1, 7);
    x.mark(1, 2, 5);
    due("34: the last", x.reads(1), 3);
    x.mark(1, 3, 7);
    due("34: all", x.reads(1), NONE);
    x.run(1);
    due("34: from now on", x.reads(1), 1);
  }

  private static void copy() {
    HallCoughs x = new HallCoughs();
    x.sheet(0, 0, 5);
    x.sheet(1, 1, 5);
    x.sheet(2, 0, 3);
    for (int k = 0; k < 5; k++) {
      x.mark(0, k, k + 1);
    }
    due("35: sheet", x.copy(4, 0, 0, 0, 1), BAD);
    due("35: sheet", x.copy(0, 0, -1, 0, 1), BAD);
    due("35: NOTHING", x.copy(3, 0, 0, 0, 1), NOTHING);
    due("35: NOTHING ahead of INDEX", x.copy(0, 9, 3, 0, 1), NOTHING);
    due("35: KIND ahead of INDEX", x.copy(0, 9, 1, 0, 1), KIND);
    due("35: many below 0", x.copy(0, 0, 2, 0, -1), INDEX);
    due("35: place below 0", x.copy(0, -1, 2, 0, 1), INDEX);
    due("35: at below 0", x.copy(0, 0, 2, -1, 1), INDEX);
    due("35: beyond the source", x.copy(0, 4, 2, 0, 2), INDEX);
    due("35: beyond the target", x.copy(0, 0, 2, 2, 2), INDEX);
    due("35: far", x.copy(0, MAX, 2, 0, MAX), INDEX);
    due("35: far", x.copy(0, 1, 2, MAX, 1), INDEX);
    due("35: none at the ends", x.copy(0, 5, 2, 3, 0), 0);
    due("35: none beyond an end", x.copy(0, 6, 2, 3, 0), INDEX);
    due("35: none beyond an end", x.copy(0, 5, 2, 4, 0), INDEX);
    due("35: two", x.copy(0, 3, 2, 1, 2), 2);
    int[] is = {0, 4, 5};
    for (int k = 0; k < 3; k++) {
      due("35: is", marked(x, 2, k), is[k]);
    }
    due("35: up within one", x.copy(0, 0, 0, 1, 4), 4);
    int[] up = {1, 1, 2, 3, 4};
    for (int k = 0; k < 5; k++) {
      due("35: as they were", marked(x, 0, k), up[k]);
    }
    due("35: down within one", x.copy(0, 1, 0, 0, 4), 4);
    int[] down = {1, 2, 3, 4, 4};
    for (int k = 0; k < 5; k++) {
      due("35: as they were", marked(x, 0, k), down[k]);
    }
    x.mark(1, 0, NONE);
    x.copy(1, 0, 1, 4, 1);
    due("35: NO NUMBER too", marked(x, 1, 4), KIND);
  }

  private static void lay() {
    HallCoughs x = new HallCoughs();
    x.person(3, 8, 10);
    x.sheet(2, 0, 1);
    due("36: slot", x.lay(5, 0, 0), BAD);
    due("36: slot", x.lay(-1, 0, 0), BAD);
    due("36: thing", x.lay(0, 4, 0), BAD);
    due("36: thing", x.lay(0, -1, 0), BAD);
    due("36: one", x.lay(0, 1, 1), BAD);
    due("36: one", x.lay(0, 1, -1), BAD);
    due("36: sheet", x.lay(0, 2, 4), BAD);
    due("36: NOTHING", x.lay(0, 2, 3), NOTHING);
    due("36: a number", x.lay(0, 3, MIN), 0);
    due("36: one", x.lay(0, 1, 0), 3);
    due("36: a SHEET", x.lay(0, 2, 2), 1);
    due("36: refused", x.lay(0, 2, 0), NOTHING);
    due("36: nothing, k any", x.lay(0, 0, MAX), 2);
    due("36: nothing", x.lay(0, 0, MIN), 0);
    x.lay(1, 1, 0);
    x.lay(2, 2, 2);
    x.turns(0, 5);
    x.set(0, 2, 99);
    x.move(0, 9);
    x.mark(2, 0, 6);
    due("36: as it was then", x.ask(1, 3), 28);
    due("36: a row of its own", x.item(2, 0), 0);
    x.keep();
    x.lay(3, 3, 7);
    x.back();
    due("36: no IMAGE keeps SLOTS", x.remains(3, 10), 7);
  }

  private static void ask() {
    HallCoughs x = new HallCoughs();
    x.person(4, 3, 10);
    x.person(5, 6, 10);
    due("37: NOTHING", x.ask(0, 0), NOTHING);
    x.lay(0, 1, 0);
    for (int kind = 0; kind < 6; kind++) {
      due("37: BORED as " + kind, x.ask(0, kind), kind == 0 || kind == 2 || kind == 4 ? 84 : KIND);
    }
    x.lay(0, 1, 1);
    due("37: SIGN", x.ask(0, 0), 6);
    due("37: slot", x.ask(5, 0), BAD);
    due("37: slot", x.ask(-1, 0), BAD);
    due("37: kind", x.ask(0, 6), BAD);
    due("37: BAD ahead of NOTHING", x.ask(1, -1), BAD);
    x.lay(0, 3, 0);
    due("37: a number", x.ask(0, 0), KIND);
    x.sheet(0, 0, 1);
    x.lay(0, 2, 0);
    due("37: a SHEET", x.ask(0, 0), KIND);
  }

  private static void item() {
    HallCoughs x = new HallCoughs();
    x.sheet(0, 1, 2);
    x.mark(0, 0, NONE);
    x.mark(0, 1, -99999);
    due("38: NOTHING", x.item(0, 0), NOTHING);
    due("38: slot", x.item(5, 0), BAD);
    due("38: slot", x.item(-1, 0), BAD);
    x.lay(0, 2, 0);
    due("38: a place", x.item(0, 1), -99999);
    due("38: NO NUMBER", x.item(0, 0), KIND);
    due("38: INDEX", x.item(0, 2), INDEX);
    due("38: INDEX", x.item(0, -1), INDEX);
    x.lay(1, 3, 0);
    due("38: KIND ahead of INDEX", x.item(1, 99), KIND);
    x.sheet(1, 0, 0);
    x.lay(0, 2, 1);
    due("38: an empty one", x.item(0, 0), INDEX);
  }

  private static void remains() {
    HallCoughs x = new HallCoughs();
    due("39: NOTHING", x.remains(0, 0), NOTHING);
    due("39: slot", x.remains(5, 0), BAD);
    due("39: slot", x.remains(-1, 1), BAD);
    x.lay(0, 3, -11);
    due("39: Java's %", x.remains(0, 4), -3);
    due("39: Java's %", x.remains(0, -4), -3);
    due("39: NO", x.remains(0, 0), NO);
    x.lay(0, 3, MIN);
    due("39: the least by -1", x.remains(0, -1), 0);
    x.person(0, 0, 0);
    x.lay(0, 1, 0);
    due("39: KIND ahead of NO", x.remains(0, 0), KIND);
  }

  private static void tell() {
    HallCoughs x = new HallCoughs();
    for (int k = 1; k <= 60; k++) {
      due("40: how many", x.tell(-k), k);
    }
    due("40: FULL", x.tell(0), FULL);
    due("40: 60 wait", x.count(8), 60);
  }

  private static void checkFresh(String what, int n, int want, int... told) {
    HallCoughs x = new HallCoughs();
    x.person(0, 0, 0);
    x.person(0, 1, 0);
    x.set(0, 3, 99);
    x.set(1, 3, 93);
    x.loud(1, 50);
    x.keep(); // one in the first second: 60, the other in the second: 10 more
    x.run(5);
    for (int v : told) {
      x.tell(v);
    }
    due("41: " + what, x.check(n), want);
    due("41: none wait then", x.count(8), 0);
    due("41: nothing changed", x.count(2), 5);
  }

  private static void check() {
    checkFresh("one", 1, 0, 1, 60);
    checkFresh("two", 2, 0, 1, 60, 1, 70);
    checkFresh("three", 3, 0, 1, 60, 1, 70, 0, 70);
    checkFresh("none told", 2, 1);
    checkFresh("the second is missing", 2, 2, 1);
    checkFresh("the third is missing", 2, 3, 1, 60);
    checkFresh("one too many", 1, 3, 1, 60, 1);
    checkFresh("two too many", 1, 3, 1, 60, 1, 70);
    checkFresh("the first is wrong", 1, 1, 0, 60);
    checkFresh("the second is wrong", 1, 2, 1, 59);
    checkFresh("the fourth is wrong", 2, 4, 1, 60, 1, 60, 1);
    checkFresh("n below", 0, BAD, 1, 60);
    checkFresh("n above", 31, BAD, 1, 60);
    HallCoughs x = new HallCoughs();
    x.tell(0);
    due("41: BAD ahead of NO", x.check(0), BAD);
    due("41: none wait", x.count(8), 0);
    x.tell(0);
    due("41: NO", x.check(30), NO);
    due("41: none wait", x.count(8), 0);
    x.keep();
    for (int k = 0; k < 60; k++) {
      x.tell(0);
    }
    due("41: thirty", x.check(30), 0);
    checkLast();
    checkByImagesTexts();
  }

  private static void checkLast() {
    HallCoughs x = new HallCoughs();
    for (int k = 0; k < 499; k++) {
      x.run(200);
    }
    x.run(197);
    x.keep();
    for (int k = 0; k < 4; k++) {
      x.tell(0);
    }
    due("41: two are left", x.check(30), 0);
    x.run(9);
    x.keep();
    due("41: none is left", x.check(1), 0);
    x.tell(0);
    due("41: none is left", x.check(1), 1);
  }

  private static void checkByImagesTexts() {
    HallCoughs x = new HallCoughs();
    x.person(0, 0, 0);
    x.set(0, 3, 99);
    Due.tellText(x, "harm 7");
    x.keep();
    Due.tellText(x, "harm 8");
    Due.tellText(x, "itch 0");
    x.tell(1);
    x.tell(7);
    due("41: by the IMAGE's TEXTS", x.check(1), 0);
  }

  private static void keep() {
    HallCoughs x = new HallCoughs();
    due("42: nobody", x.keep(), 0);
    x.deal(3);
    due("42: three", x.keep(), 3);
    x.deal(1);
    due("42: the last one counts", x.back(), 3);
  }

  private static void back() {
    HallCoughs x = new HallCoughs();
    x.person(3, 4, 50);
    x.person(0, 5, 50);
    x.set(1, 3, 99);
    x.set(0, 4, 9);
    x.loud(2, 22);
    x.hall(0, 44);
    x.hall(1, 5);
    x.seed(99);
    Due.tellText(x, "fine h");
    x.run(1);
    x.keep();
    int[] counts = new int[11];
    for (int what = 0; what < 11; what++) {
      counts[what] = x.count(what);
    }
    for (int again = 0; again < 2; again++) {
      x.deal(4);
      x.turns(0, 1);
      x.move(0, 29);
      x.set(0, 2, 1);
      x.set(0, 3, 500);
      x.set(0, 4, 0);
      x.bars(9);
      x.loud(2, 0);
      x.hall(0, 1);
      x.hall(1, 1);
      Due.tellText(x, "fine 5");
      x.run(33);
      x.feed(1, 2, 3);
      x.tell(5);
      x.sheet(0, 0, 2 + again);
      due("43: how many", x.back(), 2);
      for (int what = 0; what < 11; what++) {
        if (what != 8 && what != 9) {
          due("43: count " + what, x.count(what), counts[what]);
        }
      }
      int[] one = {3, 4, 50, 0, 8, 0};
      for (int what = 0; what < one.length; what++) {
        due("43: told " + what, x.told(0, what), one[what]);
      }
      due("43: COUGHS", x.told(1, 5), 1);
      due("43: DID", x.did(), 2);
      due("43: LOUD", x.music(1), 22);
      due("43: fine", x.fine(0), 60);
      due("43: the tape stays", x.count(9), 12);
      due("43: what waits stays", x.count(8), 1 + again);
      due("43: SHEETS stay", x.copy(0, 0, 0, 0, 2 + again), 2 + again);
      x.trim(0);
    }
    due("43: a SEAT that is free again", x.onSeat(29), NONE);
    HallCoughs y = new HallCoughs();
    y.keep();
    y.person(0, 0, 50);
    y.set(0, 3, 100);
    y.run(2);
    y.set(0, 4, 50);
    y.back();
    y.person(1, 1, 1);
    for (int what = 3; what < 6; what++) {
      due("43: who comes then is new", y.told(0, what), 0);
    }
  }

  private static void count() {
    HallCoughs x = new HallCoughs();
    due("44: below", x.count(-1), BAD);
    due("44: above", x.count(11), BAD);
    x.person(0, 0, 99);
    x.person(0, 1, 99);
    x.bars(7);
    x.run(26);
    x.hall(0, 31);
    x.hall(1, 4);
    Due.tellText(x, "fine 5");
    x.tell(1);
    x.tell(1);
    x.feed(0, 0, 0);
    x.seed(-9);
    int[] counts = {2, 7, 26, 4, 240, 31, 4, 1, 2, 12, -9};
    for (int what = 0; what < counts.length; what++) {
      due("44: " + what, x.count(what), counts[what]);
    }
  }
}
