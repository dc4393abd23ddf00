import java.util.ArrayList;
import java.util.List;
import java.util.Random;
import java.util.regex.Matcher;
import java.util.regex.Pattern;

/** Drawn numbers and drawn texts of HOUSES, whole and broken; the same seed draws the same. */
final class Drawn {
  private static final String[] ROOMS = {"a", "z", "hall", "kitchens", "az", "bed", "x", "one", "e"};
  private static final String[] THINGS = {"clock", "hall", "z", "zzzzzzzz", "lamp", "a", "unit"};
  private static final String[] WORDS = {"room", "creaks", "door", "thing", "in", "was", "ours", "us", "them", "sure", "draw",
      "or", "and", "not", "far", "told", "day", "a", "z", "hall", "clock", "b", "abcdefgh", "abcdefghi", "0", "1", "9", "10", "50", "51",
      "999", "1000", "9999", "12345", "7x", ";", "(", ")", "<", ">", "=", "+", "-", "*", "/", "%", "$", "{", "`", "\u00ff", "\t", "\n", " "};
  private static final String[] NUMBERS = {"0", "9", "10", "50", "51", "999", "1000", "9999", "0009", "00009"};
  private static final String[] LINES = {"room b;", "room a;", "room z creaks 9;", "door a z;", "door z a;", "door a a;", "thing p in a;",
      "thing lamp in z was a;", "sure 1;", "sure 50-far;", "draw 7;", ";", "\n"};
  private static final Pattern TOKEN = Pattern.compile("[a-z]+|[0-9]+|[^a-z0-9 \n]");
  private static final int[] WILD = {Integer.MIN_VALUE, Integer.MAX_VALUE, 1 << 16, -256, 256};

  private final Random random;

  Drawn(long seed) {
    random = new Random(seed);
  }

  int upTo(int n) {
    return random.nextInt(n + 1);
  }

  boolean oneOf(int n) {
    return random.nextInt(n) == 0;
  }

  int any() {
    return random.nextInt();
  }

  /** Mostly 0 .. n - 1, sometimes one beyond, sometimes far beyond. */
  int below(int n) {
    int dice = random.nextInt(24);
    if (dice == 0) return -1;
    if (dice == 1) return n;
    if (dice == 2) return oneOf(2) ? WILD[random.nextInt(WILD.length)] : upTo(n + 3) - 2;
    return n <= 0 ? 0 : random.nextInt(n);
  }

  private String from(String[] all) {
    return all[random.nextInt(all.length)];
  }

  String formula(int depth) {
    StringBuilder e = new StringBuilder(single(depth));
    while (oneOf(3)) e.append(oneOf(2) ? " or " : " and ").append(single(depth));
    return e.toString();
  }

  private String single(int depth) {
    if (oneOf(6)) return "not " + single(depth + 1);
    String one = sum(depth);
    return oneOf(4) ? one + "<>=".charAt(random.nextInt(3)) + sum(depth) : one;
  }

  private String sum(int depth) {
    StringBuilder e = new StringBuilder(unit(depth));
    while (random.nextInt(5) > 1) e.append(' ').append("+-*/%+-*".charAt(random.nextInt(8))).append(unit(depth));
    return e.toString();
  }

  private String unit(int depth) {
    if (oneOf(5 + depth)) return "(" + formula(depth + 1) + ")";
    String[] known = {"us", "them", "far", "told", "day", "far", "day"};
    if (oneOf(2)) return from(known);
    return String.valueOf(oneOf(3) ? upTo(9999) : upTo(120));
  }

  /** About as many units, or as many of them within others, as can be. */
  private String formulaAtTheBound() {
    StringBuilder e = new StringBuilder("90");
    if (oneOf(2)) {
      for (int left = 27 + upTo(3); left > 0; left--) e.append(oneOf(2) ? " - " : "+").append(oneOf(8) ? "(far)" : from(new String[] {"far", "1"}));
      return e.toString();
    }
    String behind = "";
    for (int left = 5 + upTo(3); left > 0; left--) {
      boolean not = oneOf(2);
      e.append(e.toString().endsWith("90") ? " or " : "").append(not ? "not " : "(");
      behind += not ? "" : ")";
    }
    return e + "day" + behind;
  }

  private String sure() {
    if (oneOf(8)) return formulaAtTheBound();
    return oneOf(2) ? formula(0) : "90-far*" + upTo(30) + "+told*5-day";
  }

  /** A HOUSE of 1 ROOM at least; its formula may have a FAULT. */
  String house(int mostRooms) {
    StringBuilder t = new StringBuilder();
    int rooms = 1 + upTo(mostRooms - 1);
    for (int r = 0; r < rooms; r++) t.append("room ").append(ROOMS[r]).append(oneOf(3) ? "" : " creaks " + upTo(9)).append(';');
    doors(t, rooms);
    int things = upTo(6);
    for (int i = 0; i < things; i++) {
      t.append("thing ").append(THINGS[i]).append(" in ").append(ROOMS[upTo(rooms - 1)]);
      if (oneOf(2)) t.append(" was ").append(ROOMS[upTo(rooms - 1)]);
      if (oneOf(2)) t.append(" ours");
      if (!oneOf(4)) t.append(" us ").append(upTo(12));
      if (!oneOf(4)) t.append(" them ").append(upTo(12));
      t.append(';');
    }
    if (!oneOf(4)) t.append("sure ").append(sure()).append(';');
    if (!oneOf(4)) t.append("draw ").append(upTo(999)).append(';');
    return t.toString();
  }

  /** Sometimes all ROOMS hang together, then by few DOORS more. */
  private void doors(StringBuilder t, int rooms) {
    boolean[] told = new boolean[64];
    int doors = 0;
    int joined = oneOf(2) ? rooms : 1;
    int tries = joined - 1 + upTo(joined > 1 ? 5 : 20);
    for (int i = 1; i <= tries && doors < 12; i++) {
      int a = i < joined ? i : upTo(rooms - 1);
      int b = i < joined ? upTo(i - 1) : upTo(rooms - 1);
      if (a == b || told[a * 8 + b]) continue;
      doors++;
      told[a * 8 + b] = true;
      told[b * 8 + a] = true;
      t.append("door ").append(ROOMS[a]).append(' ').append(ROOMS[b]).append(';');
    }
  }

  /** Lines of one sort, as many as can be or one more. */
  String tooMany() {
    StringBuilder t = new StringBuilder();
    int sort = upTo(2);
    int rooms = sort == 0 ? 8 + upTo(1) : 8;
    for (int r = 0; r < rooms; r++) t.append("room ").append(ROOMS[r]).append(';');
    int more = sort == 1 ? 12 + upTo(1) : sort == 2 ? 6 + upTo(1) : 0;
    for (int i = 0; i < more; i++) {
      int a = i % 7;
      t.append(sort == 1 ? "door " + ROOMS[a] + " " + ROOMS[(a + 1 + i / 7) % 8] : "thing " + THINGS[i] + " in " + ROOMS[i]).append(';');
    }
    return t.append("draw ").append(upTo(999)).append(';').toString();
  }

  /** A text with some bytes, TOKENS or lines changed, put in or taken out; 1,600 bytes at most. */
  String broken(String text, int changes) {
    StringBuilder t = new StringBuilder(text);
    for (int i = 0; i < changes; i++) {
      int at = upTo(t.length());
      switch (random.nextInt(9)) {
        case 0 -> t.insert(at, from(WORDS));
        case 1 -> t.insert(at, " " + from(WORDS) + " ");
        case 2 -> t.delete(at, Math.min(t.length(), at + 1 + upTo(2)));
        case 3 -> t.setLength(at);
        case 4 -> putForToken(t, oneOf(2) ? from(WORDS) : from(ROOMS));
        case 5 -> putForNumber(t);
        default -> t.insert(t.indexOf(";", at) + 1, oneOf(2) ? from(LINES) : lineOf(t));
      }
    }
    if (t.length() > 1600) t.setLength(1600);
    return t.toString();
  }

  private void putForToken(StringBuilder t, String word) {
    List<int[]> found = tokens(t, "");
    if (found.isEmpty()) return;
    int[] one = found.get(random.nextInt(found.size()));
    t.replace(one[0], one[1], word);
  }

  private void putForNumber(StringBuilder t) {
    List<int[]> found = tokens(t, "0123456789");
    if (found.isEmpty()) return;
    int[] one = found.get(random.nextInt(found.size()));
    t.replace(one[0], one[1], from(NUMBERS));
  }

  private static List<int[]> tokens(StringBuilder t, String first) {
    List<int[]> found = new ArrayList<>();
    Matcher token = TOKEN.matcher(t);
    while (token.find()) {
      if (first.isEmpty() || first.indexOf(t.charAt(token.start())) >= 0) found.add(new int[] {token.start(), token.end()});
    }
    return found;
  }

  private String lineOf(StringBuilder t) {
    String[] lines = t.toString().split(";");
    return lines.length == 0 ? ";" : from(lines) + ";";
  }
}
