import java.math.BigInteger;
import java.util.ArrayDeque;
import java.util.ArrayList;
import java.util.Arrays;
import java.util.Comparator;
import java.util.HashMap;
import java.util.List;
import java.util.Map;
import java.util.TreeMap;
import java.util.function.Function;
import java.util.regex.Matcher;
import java.util.regex.Pattern;

/** The document once more, in the slowest and plainest way: it tries all there is. */
final class Model {
  static final class Bad extends RuntimeException {
    private static final long serialVersionUID = 1L;
    final int fault;
    final int place;

    Bad(int fault, int place) {
      this.fault = fault;
      this.place = place;
    }
  }

  /** What a formula knows: us, them, far, told, day. */
  interface Node extends Function<int[], Integer> {}

  static final class House {
    List<String> rooms = new ArrayList<>();
    List<Integer> creaks = new ArrayList<>();
    List<int[]> doors = new ArrayList<>();
    List<String> things = new ArrayList<>();
    List<int[]> told = new ArrayList<>(); // in, was, ours, us, them
    Node sure;
    Integer draw;
    int units;
  }

  static final class State {
    int[][] things; // in, think, ours, deep, spoke
    int day;
    int seed;

    State copy() {
      State s = new State();
      s.things = new int[things.length][];
      for (int i = 0; i < things.length; i++) s.things[i] = things[i].clone();
      s.day = day;
      s.seed = seed;
      return s;
    }
  }

  record Heard(int minute, boolean creaks, int value, boolean is, int told, int[] untold) {}

  StringBuilder tape = new StringBuilder();
  House h = new House();
  State s;
  ArrayDeque<State> past = new ArrayDeque<>();
  ArrayDeque<State> future = new ArrayDeque<>();
  State[] boxes = new State[3];
  List<Integer> lies = new ArrayList<>();
  List<Heard> heards = new ArrayList<>();
  int time;
  int fault;
  int place = -1;

  Model() {
    start();
  }

  private void start() {
    s = new State();
    s.things = new int[h.told.size()][];
    for (int i = 0; i < s.things.length; i++) s.things[i] = new int[] {h.told.get(i)[0], h.told.get(i)[1], h.told.get(i)[2], 0, -1};
    s.seed = h.draw == null ? 0 : h.draw;
    past.clear();
    future.clear();
    Arrays.fill(boxes, null);
    lies.clear();
    heards.clear();
  }

  // the text

  int feed(int... five) {
    if (tape.length() + 20 > 1600) return -1;
    for (int four : five) {
      for (int i = 3; i >= 0; i--) tape.append((char) (four >>> 8 * i & 255));
    }
    return tape.length();
  }

  int end(int n) {
    if (n < 0 || n > tape.length()) return -1;
    tape.setLength(n);
    return n;
  }

  int fault(int what) {
    return what == 0 ? fault : what == 1 ? place : -1;
  }

  int house() {
    try {
      House read = new Parser(tape.toString()).house();
      h = read;
      fault = 0;
      place = -1;
      tape.setLength(0);
      start();
      return h.rooms.size();
    } catch (Bad bad) {
      fault = bad.fault;
      place = bad.place;
      return -1;
    }
  }

  private static final class Parser {
    private static final List<String> OWN = List.of("room", "creaks", "door", "thing", "in", "was", "ours", "us", "them",
        "sure", "draw", "or", "and", "not", "far", "told", "day");
    private static final Pattern TOKEN = Pattern.compile("[ \n]*+([a-z]++|[0-9]++(?![a-z])|[-;()<>=+*/%]|\\z)");
    private final String text;
    private final House h = new House();
    private String token;
    private int at;
    private int next;
    private int open;

    Parser(String text) {
      this.text = text;
    }

    private void step() {
      Matcher m = TOKEN.matcher(text).region(next, text.length());
      if (!m.lookingAt()) {
        at = next;
        while (at < text.length() && (text.charAt(at) == ' ' || text.charAt(at) == '\n')) at++;
        throw new Bad(1, at);
      }
      token = m.group(1);
      at = m.start(1);
      next = m.end(1);
      if (token.matches("[a-z]{9,}|[0-9]{5,}")) throw new Bad(1, at);
    }

    private Bad bad(int fault) {
      return new Bad(fault, at);
    }

    private void take(String what) {
      if (!token.equals(what)) throw bad(2);
      step();
    }

    private String name() {
      if (!token.matches("[a-z]+") || OWN.contains(token)) throw bad(2);
      return token;
    }

    private int room() {
      int i = h.rooms.indexOf(name());
      if (i < 0) throw bad(5);
      return i;
    }

    private int number(int most) {
      if (!token.matches("[0-9]+")) throw bad(2);
      int n = Integer.parseInt(token);
      if (n > most) throw bad(4);
      step();
      return n;
    }

    private int option(String word, int most) {
      if (!token.equals(word)) return 0;
      step();
      return number(most);
    }

    House house() {
      step();
      while (!token.isEmpty()) {
        line();
        take(";");
      }
      return h;
    }

    private void line() {
      switch (token) {
        case "room" -> {
          if (h.rooms.size() == 8) throw bad(2);
          step();
          String name = name();
          if (h.rooms.contains(name)) throw bad(3);
          step();
          int creaks = option("creaks", 9);
          h.rooms.add(name);
          h.creaks.add(creaks);
        }
        case "door" -> {
          if (h.doors.size() == 12) throw bad(2);
          step();
          int a = room();
          step();
          int b = room();
          if (a == b) throw bad(3);
          for (int[] d : h.doors) if (d[0] == a && d[1] == b || d[0] == b && d[1] == a) throw bad(3);
          step();
          h.doors.add(new int[] {a, b});
        }
        case "thing" -> {
          if (h.things.size() == 6) throw bad(2);
          step();
          String name = name();
          if (h.things.contains(name)) throw bad(3);
          step();
          take("in");
          int in = room();
          int was = in;
          step();
          if (token.equals("was")) {
            step();
            was = room();
            step();
          }
          int ours = token.equals("ours") ? 1 : 0;
          if (ours == 1) step();
          int us = option("us", 50);
          int them = option("them", 50);
          h.things.add(name);
          h.told.add(new int[] {in, was, ours, us, them});
        }
        case "sure" -> {
          if (h.sure != null) throw bad(2);
          step();
          h.sure = e();
        }
        case "draw" -> {
          if (h.draw != null) throw bad(2);
          step();
          h.draw = number(999);
        }
        default -> throw bad(2);
      }
    }

    private Node e() {
      Node a = both();
      while (token.equals("or")) {
        step();
        Node l = a;
        Node r = both();
        a = k -> l.apply(k) != 0 | r.apply(k) != 0 ? 1 : 0;
      }
      return a;
    }

    private Node both() {
      Node a = one();
      while (token.equals("and")) {
        step();
        Node l = a;
        Node r = one();
        a = k -> l.apply(k) != 0 & r.apply(k) != 0 ? 1 : 0;
      }
      return a;
    }

    private Node one() {
      if (token.equals("not")) {
        if (open == 7) throw bad(2);
        open++;
        step();
        Node a = one();
        open--;
        return k -> a.apply(k) == 0 ? 1 : 0;
      }
      Node l = sum();
      String op = token;
      if (!op.matches("[<>=]")) return l;
      step();
      Node r = sum();
      return k -> {
        int c = Integer.compare(l.apply(k), r.apply(k));
        return (op.equals("<") ? c < 0 : op.equals(">") ? c > 0 : c == 0) ? 1 : 0;
      };
    }

    private Node sum() {
      Node a = term();
      while (token.matches("[-+]")) {
        boolean plus = token.equals("+");
        step();
        Node l = a;
        Node r = term();
        a = k -> (int) (plus ? (long) l.apply(k) + r.apply(k) : (long) l.apply(k) - r.apply(k));
      }
      return a;
    }

    private Node term() {
      Node a = unit();
      while (token.matches("[*/%]")) {
        char op = token.charAt(0);
        step();
        Node l = a;
        Node r = unit();
        a = k -> {
          long x = l.apply(k);
          long y = r.apply(k);
          return (int) (op == '*' ? x * y : y == 0 ? 0 : op == '/' ? x / y : x % y);
        };
      }
      return a;
    }

    private Node unit() {
      if (h.units == 30) throw bad(2);
      h.units++;
      String t = token;
      int i = List.of("us", "them", "far", "told", "day").indexOf(t);
      if (i >= 0) {
        step();
        return k -> k[i];
      }
      if (t.matches("[0-9]+")) {
        int n = Integer.parseInt(t);
        step();
        return k -> n;
      }
      if (!t.equals("(") || open == 7) throw bad(2);
      open++;
      step();
      Node a = e();
      open--;
      take(")");
      return a;
    }
  }

  // ROOMS and DOORS

  boolean isRoom(int r) {
    return r >= 0 && r < h.rooms.size();
  }

  boolean isThing(int t) {
    return t >= 0 && t < h.things.size();
  }

  boolean isSet(int set) {
    return set >= 0 && set < 1 << h.rooms.size();
  }

  private boolean joined(int a, int b, int[] without) {
    for (int[] d : h.doors) {
      if (d != without && (d[0] == a && d[1] == b || d[0] == b && d[1] == a)) return true;
    }
    return false;
  }

  private int farBy(int a, int b, int[] without, int barred) {
    int n = h.rooms.size();
    int[][] f = new int[n][n];
    for (int i = 0; i < n; i++) {
      for (int j = 0; j < n; j++) {
        boolean shut = (barred >> i & 1) + (barred >> j & 1) > 0;
        f[i][j] = i == j ? 0 : !shut && joined(i, j, without) ? 1 : 1000;
      }
    }
    for (int k = 0; k < n; k++) {
      for (int i = 0; i < n; i++) {
        for (int j = 0; j < n; j++) f[i][j] = Math.min(f[i][j], f[i][k] + f[k][j]);
      }
    }
    return f[a][b] >= 1000 ? -1 : f[a][b];
  }

  int far(int a, int b) {
    return isRoom(a) && isRoom(b) ? farBy(a, b, null, 0) : -1;
  }

  int room(int r, int what) {
    if (!isRoom(r) || what < 0 || what > 3) return -1;
    if (what == 0) return h.creaks.get(r);
    int set = 0;
    if (what == 1) {
      for (int o = 0; o < h.rooms.size(); o++) if (joined(r, o, null)) set |= 1 << o;
    } else {
      for (int t = 0; t < s.things.length; t++) if (s.things[t][what - 2] == r) set |= 1 << t;
    }
    return set;
  }

  int door(int d, int what) {
    if (d < 0 || d >= h.doors.size() || what < 0 || what > 3) return -1;
    int[] door = h.doors.get(d);
    if (what < 2) return door[what];
    if (what == 2) return farBy(door[0], door[1], door, 0) < 0 ? 1 : 0;
    int set = 0;
    for (int r = 0; r < h.rooms.size(); r++) if (farBy(door[0], r, door, 0) >= 0) set |= 1 << r;
    return set;
  }

  private void paths(List<Integer> path, int to, List<List<Integer>> all) {
    int at = path.get(path.size() - 1);
    if (at == to) {
      all.add(new ArrayList<>(path));
      return;
    }
    for (int n = 0; n < h.rooms.size(); n++) {
      if (joined(at, n, null) && !path.contains(n)) {
        path.add(n);
        paths(path, to, all);
        path.remove(path.size() - 1);
      }
    }
  }

  private List<List<Integer>> paths(int a, int b) {
    List<List<Integer>> all = new ArrayList<>();
    if (isRoom(a) && isRoom(b)) paths(new ArrayList<>(List.of(a)), b, all);
    return all;
  }

  private int creaksOf(List<Integer> path) {
    int sum = 0;
    for (int r : path.subList(1, path.size())) sum += h.creaks.get(r);
    return sum;
  }

  private static final Comparator<List<Integer>> BY_NUMBERS = Comparator.comparing(List::toString);

  int way(int a, int b) {
    lies = paths(a, b).stream().min(Comparator.<List<Integer>>comparingInt(List::size).thenComparing(BY_NUMBERS)).orElse(new ArrayList<>());
    return lies.size() - 1;
  }

  int quiet(int a, int b) {
    lies = paths(a, b).stream()
        .min(Comparator.<List<Integer>>comparingInt(this::creaksOf).thenComparingInt(List::size).thenComparing(BY_NUMBERS))
        .orElse(new ArrayList<>());
    return lies.isEmpty() ? -1 : creaksOf(lies);
  }

  int ways(int a, int b) {
    Map<Integer, Integer> bySize = new TreeMap<>();
    for (List<Integer> p : paths(a, b)) bySize.merge(p.size(), 1, Integer::sum);
    return bySize.isEmpty() ? -1 : bySize.values().iterator().next();
  }

  int pieces() {
    int n = 0;
    for (int r = 0; r < h.rooms.size(); r++) {
      boolean fresh = true;
      for (int o = 0; o < r; o++) fresh &= far(o, r) < 0;
      if (fresh) n++;
    }
    return n;
  }

  int parts() {
    int set = 0;
    for (int d = 0; d < h.doors.size(); d++) set |= door(d, 2) << d;
    return set;
  }

  private final Map<Integer, int[]> hunted = new HashMap<>();

  private int[] hunting(int set, int[] near) {
    if (Integer.bitCount(set) == 1) return new int[] {0, -1};
    int[] known = hunted.get(set);
    if (known != null) return known;
    int[] best = {-1, -1};
    for (int d = 0; d < near.length; d++) {
      int a = near[d] < 0 ? 0 : set & near[d];
      if (a == 0 || a == set) continue;
      int x = hunting(a, near)[0];
      int y = hunting(set ^ a, near)[0];
      if (x >= 0 && y >= 0 && (best[0] < 0 || 1 + Math.max(x, y) < best[0])) best = new int[] {1 + Math.max(x, y), d};
    }
    hunted.put(set, best);
    return best;
  }

  int hunt(int set) {
    return hunted(set, 0);
  }

  int first(int set) {
    return hunted(set, 1);
  }

  private int hunted(int set, int what) {
    if (set == 0 || !isSet(set)) return -1;
    hunted.clear();
    int[] near = new int[h.doors.size()];
    for (int d = 0; d < near.length; d++) near[d] = door(d, 2) == 1 ? door(d, 3) : -1;
    return hunting(set, near)[what];
  }

  int meet(int a, int b, int what) {
    if (!isRoom(a) || !isRoom(b) || what < 0 || what > 1) return -1;
    int left = 1 << a;
    int right = 1 << b;
    for (int minutes = 0; minutes < 10; minutes++) {
      if ((left & right) != 0) return what == 0 ? minutes : Integer.numberOfTrailingZeros(left & right);
      left = spread(left);
      right = spread(right);
    }
    return -1;
  }

  private int spread(int set) {
    int more = set;
    for (int r = 0; r < h.rooms.size(); r++) if ((set >> r & 1) == 1) more |= room(r, 1);
    return more;
  }

  int bar(int a, int b, int what) {
    if (!isRoom(a) || !isRoom(b) || a == b || what < 0 || what > 1) return -1;
    int best = -1;
    for (int set = 0; set < 1 << h.rooms.size(); set++) {
      if ((set >> a & 1) + (set >> b & 1) > 0 || Integer.bitCount(set) > 3) continue;
      boolean better = best < 0 || Integer.bitCount(set) < Integer.bitCount(best);
      if (better && farBy(a, b, null, set) < 0) best = set;
    }
    return best < 0 ? -1 : what == 0 ? Integer.bitCount(best) : best;
  }

  private int[][] fars() {
    int n = h.rooms.size();
    int[][] f = new int[n][n];
    for (int i = 0; i < n; i++) for (int j = 0; j < n; j++) f[i][j] = far(i, j);
    return f;
  }

  private int leastTour;

  private void tours(int at, int left, int cost, List<Integer> order, int[][] f) {
    if (cost >= leastTour) return;
    if (left == 0) {
      leastTour = cost;
      lies = new ArrayList<>(order);
      return;
    }
    for (int r = 0; r < h.rooms.size(); r++) {
      if ((left >> r & 1) == 1) {
        order.add(r);
        tours(r, left ^ 1 << r, cost + f[at][r], order, f);
        order.remove(order.size() - 1);
      }
    }
  }

  int tour(int room, int set) {
    lies = new ArrayList<>();
    if (!isRoom(room) || !isSet(set)) return -1;
    int[][] f = fars();
    for (int r = 0; r < h.rooms.size(); r++) if ((set >> r & 1) == 1 && f[room][r] < 0) return -1;
    leastTour = 1000;
    tours(room, set, 0, new ArrayList<>(), f);
    return leastTour;
  }

  int centre() {
    int[][] f = fars();
    int best = -1;
    for (int r = 0; r < f.length; r++) {
      if (best < 0 || Arrays.stream(f[r]).max().getAsInt() < Arrays.stream(f[best]).max().getAsInt()) best = r;
    }
    return best;
  }

  int nooks() {
    int set = 0;
    for (int r = 0; r < h.rooms.size(); r++) {
      int doors = 0;
      for (int[] d : h.doors) if (d[0] == r || d[1] == r) doors++;
      if (doors <= 1) set |= 1 << r;
    }
    return set;
  }

  int echo(int room, int far) {
    if (!isRoom(room) || far < 0 || far > 8) return -1;
    int sum = 0;
    for (int r = 0; r < h.rooms.size(); r++) if (far(room, r) >= 0 && far(room, r) <= far) sum += h.creaks.get(r);
    return sum;
  }

  // THINGS

  private int off(State st, int t) {
    int f = far(st.things[t][0], st.things[t][1]);
    return f < 0 ? 9 : f;
  }

  private int sure(State st, int t, int day) {
    if (h.sure == null) return 100;
    int[] told = h.told.get(t);
    int v = h.sure.apply(new int[] {told[3], told[4], off(st, t), st.things[t][3], day});
    return v < 0 ? 0 : v > 100 ? 100 : v;
  }

  int thing(int t, int what) {
    if (!isThing(t)) return -2;
    return switch (what) {
      case 0, 1, 2 -> s.things[t][what];
      case 3, 4 -> h.told.get(t)[what];
      case 5, 6 -> s.things[t][what - 2];
      case 7 -> sure(s, t, s.day);
      default -> -2;
    };
  }

  private void act() {
    past.addLast(s);
    if (past.size() > 40) past.removeFirst();
    future.clear();
    s = s.copy();
  }

  int tell(int t) {
    if (!isThing(t)) return -1;
    act();
    speak(s.things[t], 0);
    return s.things[t][0] == s.things[t][1] ? 1 : 0;
  }

  int hear(int t) {
    if (!isThing(t)) return -1;
    act();
    speak(s.things[t], 1);
    s.things[t][1] = s.things[t][0];
    return s.things[t][1];
  }

  private static void speak(int[] thing, int who) {
    if (thing[4] != who && thing[3] < 99) thing[3]++;
    thing[4] = who;
  }

  int carry(int t, int d) {
    if (!isThing(t) || d < 0 || d >= h.doors.size()) return -1;
    int[] door = h.doors.get(d);
    int in = s.things[t][0];
    if (door[0] != in && door[1] != in) return -1;
    act();
    s.things[t][0] = door[0] + door[1] - in;
    s.things[t][3] = 0;
    s.things[t][4] = -1;
    return s.things[t][0];
  }

  int send(int t) {
    if (!isThing(t)) return -1;
    act();
    s.things[t][2] ^= 1;
    return s.things[t][2];
  }

  private int passDay(State st) {
    State ahead = st.copy();
    int set = 0;
    for (int t = 0; t < st.things.length; t++) {
      st.seed = (st.seed * 137 + 71) % 1000;
      if (st.seed % 100 >= sure(ahead, t, ahead.day)) {
        st.things[t][1] = st.things[t][1] + 1 == h.rooms.size() ? 0 : st.things[t][1] + 1;
        set |= 1 << t;
      }
    }
    st.day++;
    return set;
  }

  int day() {
    if (s.day == 999) return -1;
    act();
    return passDay(s);
  }

  boolean undo() {
    if (past.isEmpty()) return false;
    future.addLast(s);
    s = past.removeLast();
    return true;
  }

  boolean redo() {
    if (future.isEmpty()) return false;
    past.addLast(s);
    s = future.removeLast();
    return true;
  }

  int mend(int doors) {
    if (doors < 0 || doors > 99) return -1;
    int best = 0;
    for (int set = 0; set < 1 << s.things.length; set++) {
      int cost = 0;
      for (int t = 0; t < s.things.length; t++) {
        if ((set >> t & 1) == 1) {
          int f = far(s.things[t][0], s.things[t][1]);
          cost += f < 0 ? 1000 : f;
        }
      }
      if (cost <= doors) best = Math.max(best, Integer.bitCount(set));
    }
    return best;
  }

  int regret() {
    int set = 0;
    for (int t = 0; t < s.things.length; t++) {
      int[] told = h.told.get(t);
      int has = s.things[t][2] == 1 ? told[3] : told[4];
      int other = s.things[t][2] == 1 ? told[4] : told[3];
      if (other > has) set |= 1 << t;
    }
    return set;
  }

  /** All pairs of which neither family loses: OURS, theirs, what both gain. */
  private List<int[]> pairs() {
    List<int[]> all = new ArrayList<>();
    for (int i = 0; i < s.things.length; i++) {
      for (int j = 0; j < s.things.length; j++) {
        if (s.things[i][2] == 1 && s.things[j][2] == 0) {
          int us = h.told.get(j)[3] - h.told.get(i)[3];
          int them = h.told.get(i)[4] - h.told.get(j)[4];
          if (us >= 0 && them >= 0) all.add(new int[] {i, j, us + them});
        }
      }
    }
    return all;
  }

  int trade(int what) {
    int[] best = null;
    for (int[] p : pairs()) if (best == null || p[2] > best[2]) best = p;
    if (best == null || what < 0 || what > 2) return -1;
    return what == 0 ? best[2] : best[what - 1];
  }

  int trades() {
    List<int[]> all = pairs();
    int best = 0;
    for (int set = 0; set < 1 << all.size(); set++) {
      int used = 0;
      boolean fine = true;
      for (int i = 0; i < all.size() && fine; i++) {
        if ((set >> i & 1) == 1) {
          int both = 1 << all.get(i)[0] | 1 << all.get(i)[1];
          fine = (used & both) == 0;
          used |= both;
        }
      }
      if (fine) best = Math.max(best, Integer.bitCount(set));
    }
    return best;
  }

  int wealth(int family) {
    if (family < 0 || family > 1) return -1;
    int sum = 0;
    for (int t = 0; t < s.things.length; t++) if (s.things[t][2] == 1 - family) sum += h.told.get(t)[3 + family];
    return sum;
  }

  int off() {
    int sum = 0;
    for (int t = 0; t < s.things.length; t++) sum += off(s, t);
    return sum;
  }

  private int right(State st) {
    int set = 0;
    for (int t = 0; t < st.things.length; t++) if (st.things[t][0] == st.things[t][1]) set |= 1 << t;
    return set;
  }

  int right() {
    return right(s);
  }

  int deep(int n) {
    if (n < 0 || n > 99) return -1;
    int set = 0;
    for (int t = 0; t < s.things.length; t++) if (s.things[t][3] >= n) set |= 1 << t;
    return set;
  }

  int stay(int t, int n, int part) {
    if (!isThing(t) || n < 0 || n > 4 || part < 0 || part > 1) return -1;
    BigInteger upper = BigInteger.ONE;
    for (int i = 0; i < n; i++) upper = upper.multiply(BigInteger.valueOf(sure(s, t, s.day + i)));
    BigInteger lower = BigInteger.valueOf(100).pow(n);
    BigInteger gcd = upper.gcd(lower);
    return (part == 0 ? upper : lower).divide(gcd).intValueExact();
  }

  int will(int t, int n) {
    if (!isThing(t) || n < 0 || n > 60) return -1;
    State st = s.copy();
    for (int i = 0; i < n; i++) passDay(st);
    return st.things[t][1];
  }

  int lost() {
    if (s.things.length == 0) return -1;
    State st = s.copy();
    for (int i = 0; i <= 60; i++) {
      if (right(st) == 0) return i;
      passDay(st);
    }
    return -1;
  }

  int lies(int i) {
    return i >= 0 && i < lies.size() ? lies.get(i) : -1;
  }

  // the night

  int heard(int minute, int creaks, boolean is) {
    return note(minute, true, creaks, is);
  }

  int seen(int minute, int room, boolean is) {
    return note(minute, false, room, is);
  }

  private int note(int minute, boolean creaks, int value, boolean is) {
    boolean can = creaks ? value >= 0 && value <= 9 : isRoom(value);
    if (minute < 0 || minute > 7 || !can || heards.size() == 30) return -1;
    heards.add(new Heard(minute, creaks, value, is, time, new int[] {-1}));
    return heards.size() - 1;
  }

  boolean untell(int n) {
    if (n < 0 || n >= heards.size() || heards.get(n).untold[0] >= 0) return false;
    heards.get(n).untold[0] = time;
    return true;
  }

  int later(int by) {
    if (by < 0 || by > 1000 || time + by > 100000) return -1;
    time += by;
    return time;
  }

  /** How many of all WALKS are in each ROOM at each minute. */
  private int[][] walked(int k) {
    int[][] counts = new int[8][8];
    List<Heard> known = new ArrayList<>();
    for (Heard x : heards) if (x.told <= k && (x.untold[0] < 0 || x.untold[0] > k)) known.add(x);
    boolean[][] next = new boolean[8][8];
    for (int i = 0; i < 8; i++) for (int j = 0; j < 8; j++) next[i][j] = i == j || joined(i, j, null);
    for (int r = 0; r < h.rooms.size(); r++) walk(new int[8], 0, r, known, counts, next);
    return counts;
  }

  private void walk(int[] rooms, int minute, int room, List<Heard> known, int[][] counts, boolean[][] next) {
    for (Heard x : known) {
      if (x.minute == minute && (x.creaks ? h.creaks.get(room) >= x.value : room == x.value) != x.is) return;
    }
    rooms[minute] = room;
    if (minute == 7) {
      for (int m = 0; m < 8; m++) counts[m][rooms[m]]++;
      return;
    }
    for (int n = 0; n < h.rooms.size(); n++) {
      if (next[room][n]) walk(rooms, minute + 1, n, known, counts, next);
    }
  }

  int walks(int k) {
    return Arrays.stream(walked(k)[0]).sum();
  }

  int certain(int minute, int k) {
    int[][] w = walked(k);
    if (minute < 0 || minute > 7 || Arrays.stream(w[0]).sum() == 0) return -1;
    int found = -1;
    for (int r = 0; r < 8; r++) {
      if (w[minute][r] > 0) {
        if (found >= 0) return -2;
        found = r;
      }
    }
    return found;
  }

  int ask(int what, int k) {
    int[][] w = walked(k);
    if (what < 0 || what > 1 || Arrays.stream(w[0]).sum() == 0) return -1;
    int best = -1;
    int least = Integer.MAX_VALUE;
    for (int m = 0; m < 8; m++) {
      int most = Arrays.stream(w[m]).max().getAsInt();
      if (most < least) {
        least = most;
        best = m;
      }
    }
    return what == 0 ? best : least;
  }

  // images

  int image(int box) {
    if (box < 0 || box > 2) return -1;
    boxes[box] = s.copy();
    return s.day;
  }

  int back(int box) {
    if (box < 0 || box > 2 || boxes[box] == null) return -1;
    s = boxes[box].copy();
    past.clear();
    future.clear();
    return s.day;
  }

  int about(int what) {
    int[] all = {h.rooms.size(), h.doors.size(), h.things.size(), s.day, s.seed, past.size(), future.size(), heards.size(),
        time, tape.length(), h.units, lies.size()};
    return what < 0 || what > 11 ? -1 : all[what];
  }
}
