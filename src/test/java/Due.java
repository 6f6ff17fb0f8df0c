/** What tests share: the answer that is due against the one that came, and how a text comes to THE TAPE. */
final class Due {
  private int asked = 0;
  private int wrong = 0;

  void due(String call, long got, long want) {
    asked++;
    if (got != want) {
      wrong++;
      System.out.println(call + " answered " + got + ", due is " + want);
    }
  }

  void holds(String what, boolean so) {
    due(what, so ? 1 : 0, 1);
  }

  /** Puts the bytes of a text on an empty tape. */
  static void feedText(HallCoughs x, String text) {
    for (int k = 0; k < text.length(); k += 12) {
      x.feed(four(text, k), four(text, k + 4), four(text, k + 8));
    }
    x.trim(text.length());
  }

  static int tellText(HallCoughs x, String text) {
    feedText(x, text);
    return x.text();
  }

  static int four(String text, int from) {
    int v = 0;
    for (int k = from; k < from + 4; k++) {
      v = v << 8 | (k < text.length() ? text.charAt(k) & 255 : 32);
    }
    return v;
  }

  void end() {
    System.out.println(asked + " answers looked at, " + wrong + " not as due");
    if (wrong != 0) {
      System.exit(1);
    }
  }
}
