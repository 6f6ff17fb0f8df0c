import java.util.ArrayList;
import java.util.HashMap;
import java.util.LinkedHashSet;
import java.util.List;
import java.util.Map;
import java.util.Random;
import java.util.Set;

/**
 * FAULTS by their own definition: "the first byte of the first word or sign with which no TEXT goes on". The document's
 * grammar stands here as rules; all ways to go on are kept side by side (as Earley does it), so that no reader that
 * goes down by levels is trusted. Texts are laid by lot, mostly of what may come next.
 */
public final class FaultsTest {
  private static final Due d = new Due();
  private static final int TEXTS = 6000, DEEPEST = 8, TAPE = 96;
  private static final List<String> KEYS = List.of("itch", "harm", "fine");
  private static final String[] NAMES = {"adi", "nl", "ch"};
  private static final String NUMBER = "0", GLUED = "glued", SIGNS = "!()+-*/<=>&|";
  private static final String[] OTHERS = {"a", "d", "i", "n", "l", "c", "h", "z", "aa", "itch", "harm", "fine", "zitch",
      "12345", ",", "A", "{", "`", ":", "\t", "" + (char) 0, "" + (char) 200};

  /** Rules by what they tell; the first of a rule is what it tells, then its parts: a small letter ahead of a sign or word. */
  private static final Map<String, List<String[]>> RULES = rules();

  public static void main(String[] args) {
    long from = args.length > 0 ? Long.parseLong(args[0]) : 1;
    int texts = args.length > 1 ? Integer.parseInt(args[1]) : TEXTS;
    int told = 0;
    for (long k = from; k < from + texts; k++) {
      told += oneText(new Random(k)) ? 1 : 0;
    }
    d.holds("some texts are TEXTS (" + told + "), some are not", told > texts / 20 && told < texts - texts / 20);
    d.end();
  }

  private static void rule(Map<String, List<String[]>> all, String rule) {
    String[] parts = rule.split(" ");
    all.computeIfAbsent(parts[0], k -> new ArrayList<>()).add(parts);
  }

  private static Map<String, List<String[]>> rules() {
    Map<String, List<String[]>> all = new HashMap<>();
    for (int key = 0; key < 3; key++) {
      rule(all, "TEXT t:" + KEYS.get(key) + " OR." + key + ".0.0");
      for (int open = 0; open <= DEEPEST; open++) {
        for (int nots = 0; nots <= DEEPEST; nots++) {
          String in = "." + key + "." + open + "." + nots;
          level(all, "OR", "AND", "|", in);
          level(all, "AND", "TEST", "&", in);
          rule(all, "TEST" + in + " SUM" + in);
          for (char sign : "<=>".toCharArray()) {
            rule(all, "TEST" + in + " SUM" + in + " t:" + sign + " SUM" + in);
          }
          level(all, "SUM", "TERM", "+-", in);
          level(all, "TERM", "PIECE", "*/", in);
          rule(all, "PIECE" + in + " t:" + NUMBER);
          for (char name : NAMES[key].toCharArray()) {
            rule(all, "PIECE" + in + " t:" + name);
          }
          if (nots < DEEPEST) {
            rule(all, "PIECE" + in + " t:! PIECE." + key + "." + open + "." + (nots + 1));
          }
          if (open < DEEPEST) {
            rule(all, "PIECE" + in + " t:( OR." + key + "." + (open + 1) + "." + nots + " t:)");
          }
        }
      }
    }
    return all;
  }

  private static void level(Map<String, List<String[]>> all, String level, String part, String signs, String in) {
    rule(all, level + in + " " + part + in);
    for (char sign : signs.toCharArray()) {
      rule(all, level + in + " " + level + in + " t:" + sign + " " + part + in);
    }
  }

  /** A rule that stands at one of its parts since a place. */
  private record Item(String[] rule, int at, int since) {
    boolean ended() { return at == rule.length; }
    String next() { return rule[at]; }
    Item onward() { return new Item(rule, at + 1, since); }
  }

  /** All rules under way behind each word or sign; none: no TEXT goes on so. */
  private static final class Ways {
    final List<List<Item>> behind = new ArrayList<>();

    Ways() {
      Set<Item> first = new LinkedHashSet<>();
      RULES.get("TEXT").forEach(rule -> first.add(new Item(rule, 1, 0)));
      behind.add(filled(first, 0));
    }

    private List<Item> filled(Set<Item> begun, int place) {
      List<Item> all = new ArrayList<>(begun);
      for (int k = 0; k < all.size(); k++) {
        Item item = all.get(k);
        List<Item> more = new ArrayList<>();
        if (item.ended()) {
          List<Item> since = item.since == place ? all : behind.get(item.since);
          since.stream().filter(i -> !i.ended() && i.next().equals(item.rule[0])).forEach(i -> more.add(i.onward()));
        } else if (!item.next().startsWith("t:")) {
          RULES.get(item.next()).forEach(rule -> more.add(new Item(rule, 1, place)));
        }
        more.stream().filter(begun::add).forEach(all::add);
      }
      return all;
    }

    Set<String> mayCome() {
      Set<String> words = new LinkedHashSet<>();
      behind.get(behind.size() - 1).stream().filter(i -> !i.ended() && i.next().startsWith("t:"))
          .forEach(i -> words.add(i.next().substring(2)));
      return words;
    }

    /** Whether a TEXT goes on with this word or sign. */
    boolean comes(String word) {
      Set<Item> begun = new LinkedHashSet<>();
      behind.get(behind.size() - 1).stream().filter(i -> !i.ended() && i.next().equals("t:" + word))
          .forEach(i -> begun.add(i.onward()));
      if (begun.isEmpty()) {
        return false;
      }
      behind.add(filled(begun, behind.size()));
      return true;
    }

    boolean mayEnd() {
      return behind.get(behind.size() - 1).stream().anyMatch(i -> i.ended() && i.rule[0].equals("TEXT"));
    }
  }

  // ---- what a text of bytes is due

  private static boolean letter(char c) { return c >= 'a' && c <= 'z'; }

  private static boolean digit(char c) { return c >= '0' && c <= '9'; }

  private static int endOfWord(String text, int from) {
    int end = from + 1;
    while (end < text.length() && (letter(text.charAt(from)) && letter(text.charAt(end))
        || digit(text.charAt(from)) && digit(text.charAt(end)))) {
      end++;
    }
    return end;
  }

  /** What stands there, as the rules name it. */
  private static String wordOf(String text, int from, int end) {
    char first = text.charAt(from);
    boolean word = letter(first) || digit(first);
    if (word && from > 0 && (letter(text.charAt(from - 1)) || digit(text.charAt(from - 1)))) {
      return GLUED;
    }
    return digit(first) && end - from <= 4 ? NUMBER : text.substring(from, end);
  }

  /** -1, if it is a TEXT; else the place of its FAULT. */
  private static int faultOf(String text) {
    Ways ways = new Ways();
    int at = 0;
    while (at < text.length()) {
      if (text.charAt(at) == ' ') {
        at++;
        continue;
      }
      int end = endOfWord(text, at);
      if (!ways.comes(wordOf(text, at, end))) {
        return at;
      }
      at = end;
    }
    return ways.mayEnd() ? -1 : text.length();
  }

  private static int leavesOf(String text) {
    int leaves = -1; // the KEY
    for (int at = 0; at < text.length(); at = endOfWord(text, at)) {
      leaves += letter(text.charAt(at)) || digit(text.charAt(at)) ? 1 : 0;
    }
    return leaves;
  }

  // ---- texts by lot

  private static boolean oneText(Random lot) {
    String text = textByLot(lot);
    int fault = faultOf(text);
    HallCoughs x = new HallCoughs();
    d.due("text of '" + text + "'", Due.tellText(x, text), fault < 0 ? 0 : -100 - fault);
    d.due("TEXTS then", x.count(7), fault < 0 ? 1 : 0);
    if (fault < 0) {
      d.due("KEY of '" + text + "'", x.textTold(0, 0), KEYS.indexOf(text.strip().substring(0, 4)));
      d.due("NUMBERS and NAMES of '" + text + "'", x.textTold(0, 1), leavesOf(text));
    }
    return fault < 0;
  }

  private static String textByLot(Random lot) {
    int most = lot.nextInt(lot.nextInt(3) == 0 ? TAPE + 1 : 30);
    int wrong = lot.nextInt(4) == 0 ? 8 : 60;
    int deep = lot.nextInt(4);
    StringBuilder text = new StringBuilder(lot.nextInt(6) == 0 ? "  " : "");
    Ways ways = new Ways();
    boolean endsSoon = false;
    while (text.length() < most || !ways.mayEnd() && !endsSoon) {
      String next = wordByLot(lot, ways, wrong, deep, text.length() >= most);
      if (text.length() > 0 && needsBlank(text, next) && lot.nextInt(25) > 0 || lot.nextInt(9) == 0) {
        text.append(' ');
      }
      text.append(next);
      ways.comes(wordOf(next, 0, endOfWord(next, 0)));
      endsSoon = text.length() > TAPE || lot.nextInt(80) == 0;
    }
    return text.substring(0, Math.min(TAPE, text.length()));
  }

  private static boolean needsBlank(StringBuilder text, String next) {
    char last = text.charAt(text.length() - 1);
    return (letter(last) || digit(last)) && (letter(next.charAt(0)) || digit(next.charAt(0)));
  }

  private static String wordByLot(Random lot, Ways ways, int wrong, int deep, boolean toTheEnd) {
    List<String> may = new ArrayList<>(ways.mayCome());
    if (lot.nextInt(wrong) == 0) {
      return lot.nextBoolean() ? OTHERS[lot.nextInt(OTHERS.length)] : "" + SIGNS.charAt(lot.nextInt(SIGNS.length()));
    }
    String next = may.get(lot.nextInt(may.size()));
    if (toTheEnd && may.contains(")")) {
      next = ")";
    } else if (!toTheEnd && may.contains(NUMBER) && lot.nextInt(4) < deep) {
      next = lot.nextBoolean() ? "!" : "("; // also the ninth
    } else if (toTheEnd && may.contains(NUMBER)) {
      next = NUMBER;
    }
    return next.equals(NUMBER) ? "" + lot.nextInt(lot.nextInt(4) == 0 ? 10000 : 20) : next;
  }
}
