import java.util.Random;

/** All promises: long runs of drawn calls against the Model, and drawn texts, whole and broken. */
public final class ModelTest {
  private static final Checks c = new Checks("ModelTest");
  private static final String[] WORDS = {"room", "creaks", "door", "thing", "in", "was", "ours", "us", "them", "sure", "draw",
      "or", "and", "not", "far", "told", "day", "a", "b", "c", "hall", "abcdefgh", "abcdefghi", "0", "1", "9", "10", "50", "51",
      "999", "1000", "9999", "12345", "7x", ";", "(", ")", "<", ">", "=", "+", "-", "*", "/", "%", "$", "\u00ff", "\t", "\n", " "};

  private final Random random;

  private ModelTest(long seed) {
    random = new Random(seed);
  }

  public static void main(String[] args) {
    for (int seed = 0; seed < 6000; seed++) new ModelTest(seed).text();
    for (int seed = 0; seed < 400; seed++) new ModelTest(1000000L + seed).run(seed);
    c.finish();
  }

  private int upTo(int n) {
    return random.nextInt(n + 1);
  }

  /** Mostly 0 .. n - 1, sometimes beyond. */
  private int about(int n) {
    int dice = random.nextInt(40);
    if (dice == 0) return -1 - upTo(2);
    if (dice == 1) return n + upTo(2);
    if (dice == 2) return random.nextInt();
    return n <= 0 ? 0 : random.nextInt(n);
  }

  private String formula(int depth) {
    StringBuilder e = new StringBuilder(single(depth));
    while (random.nextInt(3) == 0) e.append(random.nextBoolean() ? " or " : " and ").append(single(depth));
    return e.toString();
  }

  private String single(int depth) {
    if (random.nextInt(6) == 0) return "not " + single(depth + 1);
    String one = sum(depth);
    return random.nextInt(4) == 0 ? one + "<>=".charAt(random.nextInt(3)) + sum(depth) : one;
  }

  private String sum(int depth) {
    StringBuilder e = new StringBuilder(unit(depth));
    while (random.nextInt(5) > 1) e.append(' ').append("+-*/%+-*".charAt(random.nextInt(8))).append(unit(depth));
    return e.toString();
  }

  private String unit(int depth) {
    if (random.nextInt(5 + depth) == 0) return "(" + formula(depth + 1) + ")";
    String[] known = {"us", "them", "far", "told", "day", "far", "day"};
    if (random.nextBoolean()) return known[random.nextInt(known.length)];
    return String.valueOf(random.nextInt(3) == 0 ? upTo(9999) : upTo(120));
  }

  private String house(int mostRooms) {
    StringBuilder t = new StringBuilder();
    int rooms = 1 + upTo(mostRooms - 1);
    for (int r = 0; r < rooms; r++) {
      t.append("room r").append((char) ('a' + r)).append(random.nextInt(3) == 0 ? "" : " creaks " + upTo(9)).append(';');
    }
    int doors = upTo(12);
    boolean[] told = new boolean[64];
    for (int d = 0; d < doors; d++) {
      int a = upTo(rooms - 1);
      int b = upTo(rooms - 1);
      if (a == b || told[a * 8 + b]) continue;
      told[a * 8 + b] = true;
      told[b * 8 + a] = true;
      t.append("door r").append((char) ('a' + a)).append(" r").append((char) ('a' + b)).append(';');
    }
    int things = upTo(6);
    for (int i = 0; i < things; i++) {
      t.append("thing ").append((char) ('p' + i)).append(" in r").append((char) ('a' + upTo(rooms - 1)));
      if (random.nextBoolean()) t.append(" was r").append((char) ('a' + upTo(rooms - 1)));
      if (random.nextBoolean()) t.append(" ours");
      if (random.nextInt(4) > 0) t.append(" us ").append(upTo(12));
      if (random.nextInt(4) > 0) t.append(" them ").append(upTo(12));
      t.append(';');
    }
    if (random.nextInt(4) > 0) t.append("sure ").append(random.nextBoolean() ? formula(0) : "90-far*" + upTo(30) + "+told*5-day").append(";");
    if (random.nextInt(4) > 0) t.append("draw ").append(upTo(999)).append(';');
    return t.toString();
  }

  /** A house's text with some TOKENS changed, taken out or put in. */
  private void text() {
    StringBuilder t = new StringBuilder(house(8));
    int changes = upTo(3);
    for (int i = 0; i < changes; i++) {
      int at = upTo(t.length());
      String word = WORDS[random.nextInt(WORDS.length)];
      switch (random.nextInt(4)) {
        case 0 -> t.insert(at, word);
        case 1 -> t.insert(at, " " + word + " ");
        case 2 -> t.delete(at, Math.min(t.length(), at + 1 + upTo(2)));
        default -> t.setLength(at);
      }
    }
    if (t.length() > 1600) t.setLength(1600);
    SoldHouse x = new SoldHouse();
    Model m = new Model();
    Checks.put(x, t.toString());
    m.tape.append(t);
    String call = "[" + t + "] ";
    c.due(call + "house()", x.house(), m.house());
    c.due(call + "fault(0)", x.fault(0), m.fault);
    c.due(call + "fault(1)", x.fault(1), m.place);
    for (int what = 0; what < 12; what++) c.due(call + "about(" + what + ")", x.about(what), m.about(what));
    for (int i = 0; i < 6; i++) {
      for (int what = 0; what < 8; what++) c.due(call + "thing(" + i + ", " + what + ")", x.thing(i, what), m.thing(i, what));
    }
  }

  private void run(int number) {
    SoldHouse x = new SoldHouse();
    Model m = new Model();
    // WALKS are tried one by one in the Model: large houses are for the runs that ask less
    int mostRooms = number % 4 == 0 ? 8 : 5;
    load(x, m, house(mostRooms), number);
    for (int i = 0; i < 420; i++) {
      step(x, m, "run " + number + " call " + i + " ", mostRooms);
      if (random.nextInt(200) == 0) load(x, m, house(mostRooms), number);
    }
  }

  private void load(SoldHouse x, Model m, String text, int number) {
    String fits = text.length() > 1600 ? text.substring(0, 1600) : text;
    x.end(0);
    Checks.put(x, fits);
    m.tape.setLength(0);
    m.tape.append(fits);
    c.due("run " + number + " house() of [" + fits + "]", x.house(), m.house());
  }

  private void step(SoldHouse x, Model m, String n, int mostRooms) {
    int rooms = m.h.rooms.size();
    int things = m.h.things.size();
    int a = about(rooms);
    int b = about(rooms);
    int t = about(things);
    int w = about(3);
    int set = about(1 << rooms);
    String in = n + "(" + a + ", " + b + ", " + t + ", " + w + ", " + set + ") ";
    switch (random.nextInt(50)) {
      case 0 -> c.due(in + "room", x.room(a, w), m.room(a, w));
      case 1 -> same(in + "thing", t, about(8), x, m);
      case 2 -> {
        int d = about(m.h.doors.size());
        int what = about(4);
        c.due(in + "door " + d + " " + what, x.door(d, what), m.door(d, what));
      }
      case 3 -> c.due(in + "far", x.far(a, b), m.far(a, b));
      case 4, 5, 6 -> c.due(in + "tell", x.tell(t), m.tell(t));
      case 7, 8, 9 -> c.due(in + "hear", x.hear(t), m.hear(t));
      case 10, 11, 12 -> {
        int d = about(m.h.doors.size());
        c.due(in + "carry " + d, x.carry(t, d), m.carry(t, d));
      }
      case 13 -> c.due(in + "send", x.send(t), m.send(t));
      case 14, 15, 16 -> c.due(in + "day", x.day(), m.day());
      case 17, 18 -> c.due(in + "undo", x.undo(), m.undo());
      case 19 -> c.due(in + "redo", x.redo(), m.redo());
      case 20 -> c.due(in + "way", x.way(a, b), m.way(a, b));
      case 21 -> c.due(in + "quiet", x.quiet(a, b), m.quiet(a, b));
      case 22 -> c.due(in + "ways", x.ways(a, b), m.ways(a, b));
      case 23 -> c.due(in + "pieces", x.pieces(), m.pieces());
      case 24 -> c.due(in + "parts", x.parts(), m.parts());
      case 25 -> c.due(in + "hunt", x.hunt(set), m.hunt(set, 0));
      case 26 -> c.due(in + "first", x.first(set), m.hunt(set, 1));
      case 27 -> c.due(in + "meet", x.meet(a, b, w), m.meet(a, b, w));
      case 28 -> c.due(in + "bar", x.bar(a, b, w), m.bar(a, b, w));
      case 29 -> c.due(in + "tour", x.tour(a, set), m.tour(a, set));
      case 30 -> c.due(in + "centre", x.centre(), m.centre());
      case 31 -> c.due(in + "nooks", x.nooks(), m.nooks());
      case 32 -> {
        int far = about(9);
        c.due(in + "echo " + far, x.echo(a, far), m.echo(a, far));
      }
      case 33 -> {
        int doors = about(random.nextBoolean() ? 12 : 100);
        c.due(in + "mend " + doors, x.mend(doors), m.mend(doors));
      }
      case 34 -> c.due(in + "regret", x.regret(), m.regret());
      case 35 -> c.due(in + "trade", x.trade(w), m.trade(w));
      case 36 -> c.due(in + "trades", x.trades(), m.trades());
      case 37 -> c.due(in + "wealth", x.wealth(w), m.wealth(w));
      case 38 -> {
        c.due(in + "off", x.off(), m.off());
        c.due(in + "right", x.right(), m.right());
      }
      case 39 -> {
        int deep = about(random.nextBoolean() ? 5 : 100);
        c.due(in + "deep " + deep, x.deep(deep), m.deep(deep));
      }
      case 40 -> {
        int days = about(5);
        c.due(in + "stay " + days, x.stay(t, days, w), m.stay(t, days, w));
      }
      case 41 -> {
        int days = about(61);
        c.due(in + "will " + days, x.will(t, days), m.will(t, days));
      }
      case 42 -> c.due(in + "lost", x.lost(), m.lost());
      case 43, 44 -> c.due(in + "lies", x.lies(w), m.lies(w));
      case 45 -> note(in, x, m, a);
      case 46 -> {
        int heard = about(m.heards.size());
        c.due(in + "untell " + heard, x.untell(heard), m.untell(heard));
        int by = about(4);
        c.due(in + "later " + by, x.later(by), m.later(by));
      }
      case 47 -> night(in, x, m, mostRooms);
      case 48 -> {
        c.due(in + "image", x.image(w), m.image(w));
        if (random.nextInt(4) == 0) {
          int box = about(3);
          c.due(in + "back " + box, x.back(box), m.back(box));
        }
      }
      default -> {
        int what = about(12);
        c.due(in + "about " + what, x.about(what), m.about(what));
      }
    }
  }

  private void same(String call, int thing, int what, SoldHouse x, Model m) {
    c.due(call + " " + what, x.thing(thing, what), m.thing(thing, what));
  }

  private void note(String in, SoldHouse x, Model m, int room) {
    int minute = about(8);
    boolean is = random.nextBoolean();
    if (random.nextBoolean()) {
      int creaks = about(10);
      c.due(in + "heard " + minute + " " + creaks + " " + is, x.heard(minute, creaks, is), m.note(minute, true, creaks, is));
    } else {
      boolean rare = is && random.nextBoolean();
      c.due(in + "seen " + minute + " " + rare, x.seen(minute, room, rare), m.note(minute, false, room, rare));
    }
  }

  private void night(String in, SoldHouse x, Model m, int mostRooms) {
    if (mostRooms > 5 && random.nextInt(5) > 0) return;
    int k = about(m.time + 2);
    int minute = about(8);
    int what = about(2);
    c.due(in + "walks " + k, x.walks(k), m.walks(k));
    c.due(in + "certain " + minute + " " + k, x.certain(minute, k), m.certain(minute, k));
    c.due(in + "ask " + what + " " + k, x.ask(what, k), m.ask(what, k));
  }
}
