import java.util.ArrayList;
import java.util.List;
import java.util.Map;
import java.util.TreeMap;
import java.util.TreeSet;

/** All promises: long runs of drawn calls of all kinds, one behind the other, 512 on one object, against the Model. */
public final class DrawnRunsTest {
  private static final Checks c = new Checks("DrawnRunsTest");
  private static final int RUNS = 1500;

  /** Each call with what its arguments are drawn from: a number n is 0 .. n - 1, mostly. */
  private static final String[] TEXT = {"fault 2", "about 12", "end bytes", "house", "feed any any any any any"};
  private static final String[] ACTS = {"tell things", "tell things", "hear things", "hear things", "carry things doors", "carry things doors",
      "carry things doors", "send things", "day", "day", "day", "undo", "undo", "redo", "thing things 8", "thing things 8", "about 12"};
  private static final String[] PLACES = {"room rooms 4", "door doors 4", "far rooms rooms", "way rooms rooms", "quiet rooms rooms",
      "ways rooms rooms", "pieces", "parts", "hunt set", "first set", "meet rooms rooms 2", "bar rooms rooms 2", "tour rooms set", "centre",
      "nooks", "echo rooms 9", "lies lying", "lies lying", "about 12"};
  private static final String[] WORTHS = {"thing things 8", "room rooms 4", "mend 12", "mend 100", "regret", "trade 3", "trades", "wealth 2",
      "off", "right", "deep 4", "deep 100", "stay things 5 2", "stay things 5 2", "will things 61", "lost", "send things", "day"};
  private static final String[] NIGHT = {"heard 8 10 is", "heard 8 10 is", "seen 8 rooms is", "seen 8 rooms not", "untell heard", "later 4",
      "later 1001", "walks time", "certain 8 time", "certain 8 time", "ask 2 time", "about 12"};
  private static final String[] BOXES = {"image 3", "image 3", "back 3", "day", "tell things", "hear things", "undo", "redo", "send things",
      "about 12", "thing things 8"};
  private static final String[] NO_TEXT = together(ACTS, PLACES, WORTHS, NIGHT, BOXES);
  private static final String[] ALL = together(TEXT, NO_TEXT);
  private static final String[][] MOODS = {ACTS, PLACES, WORTHS, NIGHT, BOXES, ACTS, ALL, NO_TEXT};

  /** All answers that came, for each call, so that no promise is left out by chance. */
  private static final Map<String, TreeSet<Integer>> came = new TreeMap<>();

  private final Drawn drawn;
  private final Pair pair;
  private final int mostRooms;

  private DrawnRunsTest(int seed) {
    drawn = new Drawn(7000000L + seed);
    pair = new Pair(c);
    // the Model tries WALKS one by one: large houses are for some runs alone
    mostRooms = seed % 5 == 0 ? 8 : 5;
  }

  public static void main(String[] args) {
    for (int seed = 0; seed < RUNS; seed++) {
      DrawnRunsTest run = new DrawnRunsTest(seed);
      run.run(seed % 10);
      c.due("calls of run " + seed, run.pair.calls(), Pair.MOST_CALLS);
    }
    for (String name : Pair.names()) allKinds(name);
    c.finish();
  }

  private static String[] together(String[]... moods) {
    List<String> calls = new ArrayList<>();
    for (String[] mood : moods) calls.addAll(List.of(mood));
    return calls.toArray(new String[0]);
  }

  /** Ordinary answers and refused ones; the 999 DAYS are behind more calls than there are. */
  private static void allKinds(String name) {
    TreeSet<Integer> answers = came.getOrDefault(name, new TreeSet<>());
    boolean truth = List.of("undo", "redo", "untell").contains(name);
    boolean never = List.of("pieces", "parts", "nooks", "regret", "trades", "off", "right", "walks", "day").contains(name);
    int refused = truth ? 0 : name.equals("thing") ? -2 : -1;
    c.due(name + " was refused", answers.contains(refused), !never);
    c.due(name + " answered in more than one way: " + answers, answers.tailSet(0).size() > 1, true);
    if (name.equals("certain")) c.due("certain was not the same in all", answers.contains(-2), true);
  }

  private void run(int kind) {
    if (kind == 1) some(ALL, drawn.upTo(30));
    newHouse(kind == 2 ? 1 : 0);
    if (pair.m.about(0) == 0 && !drawn.oneOf(8)) newHouse(0);
    if (kind == 3) fillTape();
    if (kind == 5) goToLastTime();
    while (!pair.isOver()) {
      if (drawn.oneOf(kind == 4 ? 4 : 14)) newHouse(drawn.oneOf(3) ? drawn.upTo(3) : 0);
      some(MOODS[drawn.upTo(MOODS.length - 1)], 5 + drawn.upTo(50));
    }
  }

  private void some(String[] mood, int calls) {
    for (int i = 0; i < calls && !pair.isOver(); i++) one(mood[drawn.upTo(mood.length - 1)]);
  }

  /** A row of a mood, sometimes many times one behind the other. */
  private void one(String row) {
    if (row.equals("house") && pair.m.about(9) == 0 && !drawn.oneOf(8)) return; // else most HOUSES would be empty ones
    String[] words = row.split(" ");
    Object[] given = new Object[words.length - 1];
    for (int i = 0; i < given.length; i++) given[i] = draw(words[i + 1]);
    for (int times = drawn.oneOf(40) ? drawn.upTo(45) : 1; times > 0; times--) ask(words[0], given);
  }

  private void ask(String name, Object... given) {
    if (!pair.isOver()) came.computeIfAbsent(name, any -> new TreeSet<>()).add(pair.call(name, given));
  }

  private Object draw(String from) {
    return switch (from) {
      case "rooms" -> drawn.below(pair.m.about(0));
      case "doors" -> drawn.below(pair.m.about(1));
      case "things" -> drawn.below(pair.m.about(2));
      case "heard" -> drawn.below(pair.m.about(7));
      case "time" -> drawn.below(pair.m.about(8) + 2);
      case "bytes" -> drawn.below(pair.m.about(9) + 1);
      case "lying" -> drawn.below(pair.m.about(11));
      case "set" -> drawn.below(1 << pair.m.about(0));
      case "any" -> drawn.any();
      case "is" -> drawn.oneOf(2);
      case "not" -> drawn.oneOf(4);
      default -> drawn.below(Integer.parseInt(from));
    };
  }

  /** Another text behind what is on the TAPE (mostly nothing), with other calls in between. */
  private void newHouse(int changes) {
    String text = drawn.broken(drawn.oneOf(12) ? "" : drawn.oneOf(20) ? drawn.tooMany() : drawn.house(mostRooms), changes);
    if (!drawn.oneOf(10)) ask("end", 0);
    int before = pair.m.about(9);
    for (int i = 0; i < text.length(); i += 20) {
      ask("feed", four(text, i), four(text, i + 4), four(text, i + 8), four(text, i + 12), four(text, i + 16));
      if (drawn.oneOf(20)) some(NO_TEXT, drawn.upTo(2));
    }
    ask("end", before + text.length());
    ask("house");
    ask("fault", 0);
    ask("fault", 1);
  }

  /** Up to the last TIME that can be, and beyond. */
  private void goToLastTime() {
    for (int i = 97 + drawn.upTo(4); i > 0; i--) ask("later", 1000);
    some(NIGHT, 5);
    ask("later", 999 + drawn.upTo(2));
    ask("later", 1000 - pair.m.about(8) % 1000 - drawn.upTo(2) + 1);
    some(NIGHT, 5);
    for (int by = 2; by >= 0; by--) ask("later", by);
  }

  /** Up to the last byte that can come, and beyond. */
  private void fillTape() {
    for (int i = 0; i < 83; i++) ask("feed", 0x20202020, 0x20202020, 0x0a0a0a0a, 0x20202020, 0x20202020);
    ask("end", 1600 - drawn.upTo(25));
    ask("feed", 0x64726177, 0x20373b20, 0x20202020, 0x20202020, 0x20202020);
    ask("house");
  }

  private static int four(String text, int from) {
    int bytes = 0;
    for (int i = from; i < from + 4; i++) bytes = bytes << 8 | (i < text.length() ? text.charAt(i) : ' ');
    return bytes;
  }
}
