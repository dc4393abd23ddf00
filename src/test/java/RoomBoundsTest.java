import java.util.function.IntFunction;
import java.util.function.ToLongFunction;

/** The bounds of promises 9, 17 to 29 and 41: what is asked of ROOMS and DOORS, from both sides, with nothing done. */
public final class RoomBoundsTest {
  private static final Checks c = new Checks("RoomBoundsTest");
  private static final Twins twins = new Twins(c, Twins::full);
  private static final int[] NEVER = {-1, -2, -8, Integer.MIN_VALUE, Integer.MAX_VALUE};

  /** A square a b d c, with e behind d, and f by itself. */
  private static final String SQUARE = "room a creaks 1;room b creaks 9;room c creaks 2;room d creaks 1;room e;room f creaks 3;"
      + "door a b;door b d;door a c;door c d;door e d;";
  private static final String LINE = line(8);
  /** 8 ROOMS and 12 DOORS: h hangs on a by the last one, the others are a wheel about a. */
  private static final String TWELVE = star(7) + "door b c;door c d;door d e;door e f;door f g;room h;door h a;";
  /** Two ROOMS that nothing joins. */
  private static final String APART = "room a creaks 4;room b creaks 5;";

  public static void main(String[] args) {
    theFar();
    theWay();
    theQuiet();
    theWays();
    thePieces();
    theParts();
    theHunt();
    theFirst();
    theMeet();
    theBar();
    theTour();
    theCentre();
    theNooks();
    theEcho();
    theLies();
    c.finish();
  }

  /** ROOMS a, b, .. in a row, each with a DOOR to the next one, all creaking 1. */
  private static String line(int n) {
    StringBuilder t = new StringBuilder();
    for (int i = 0; i < n; i++) t.append("room ").append((char) ('a' + i)).append(" creaks 1;");
    for (int i = 0; i + 1 < n; i++) t.append("door ").append((char) ('a' + i)).append(' ').append((char) ('a' + i + 1)).append(';');
    return t.toString();
  }

  /** a joined with each of the others. */
  private static String star(int n) {
    StringBuilder t = new StringBuilder();
    for (int i = 0; i < n; i++) t.append("room ").append((char) ('a' + i)).append(";");
    for (int i = 1; i < n; i++) t.append("door a ").append((char) ('a' + i)).append(';');
    return t.toString();
  }

  /** a and b, and n others that each join both. */
  private static String lanes(int n) {
    StringBuilder t = new StringBuilder("room a;room b;");
    for (int i = 0; i < n; i++) {
      char r = (char) ('c' + i);
      t.append("room ").append(r).append(";door a ").append(r).append(";door ").append(r).append(" b;");
    }
    return t.toString();
  }

  /** In full() there are 4 ROOMS: one that can't be, first or second. */
  private static void noRoom(String call, IntFunction<ToLongFunction<SoldHouse>> how) {
    for (int n : NEVER) twins.still(call + " of " + n, -1, how.apply(n));
    for (int n : new int[] {4, 5, 7, 8, 32, 256}) twins.still(call + " of " + n, -1, how.apply(n));
  }

  /** Likewise, where nothing lies there then. */
  private static void layNothing(String call, IntFunction<ToLongFunction<SoldHouse>> how) {
    for (int n : NEVER) twins.onlyLays(call + " of " + n, -1, how.apply(n));
    for (int n : new int[] {4, 5, 7, 8, 32, 256}) twins.onlyLays(call + " of " + n, -1, how.apply(n));
  }

  private static void noWhat(String call, IntFunction<ToLongFunction<SoldHouse>> how) {
    for (int n : NEVER) twins.still(call + " what " + n, -1, how.apply(n));
    for (int n : new int[] {2, 3, 256}) twins.still(call + " what " + n, -1, how.apply(n));
  }

  private static void theFar() {
    c.promise(9, "FAR; NONE if no DOORS lead there, or one can't be");
    c.term("FAR of two ROOMS: the fewest DOORS from the one to the other");
    SoldHouse x = Checks.of(LINE);
    for (int a = 0; a < 8; a++) {
      for (int b = 0; b < 8; b++) c.due("far(" + a + ", " + b + ")", x.far(a, b), Math.abs(a - b));
    }
    c.due("far(0, 8)", x.far(0, 8), -1);
    c.due("far(8, 0)", x.far(8, 0), -1);
    c.due("far(8, 8)", x.far(8, 8), -1);
    x = Checks.of(LINE + "door h a;");
    c.due("round: far(0, 7)", x.far(0, 7), 1);
    c.due("round: far(0, 4)", x.far(0, 4), 4);
    c.due("round: far(0, 5)", x.far(0, 5), 3);
    twins.still("far(0, 2)", 2, y -> y.far(0, 2));
    twins.still("far(3, 3)", 0, y -> y.far(3, 3));
    twins.still("far(0, 3)", -1, y -> y.far(0, 3));
    noRoom("far first", n -> y -> y.far(n, 0));
    noRoom("far second", n -> y -> y.far(0, n));
    noRoom("far both", n -> y -> y.far(n, n));
    c.due("far(0, 0) of nothing", new SoldHouse().far(0, 0), -1);
  }

  private static void theWay() {
    c.promise(17, "WAY: how many DOORS (0: one ROOM); NONE if there is none, or one can't be");
    c.promise(17, "ROOMS lie there then, from the first one on (behind NONE: nothing)");
    c.term("WAY of two ROOMS: the fewest DOORS; of like ones the first (ROOM by ROOM, by numbers)");
    SoldHouse x = Checks.of(LINE);
    c.due("way(0, 7)", x.way(0, 7), 7);
    c.lie("way(0, 7)", x, 0, 1, 2, 3, 4, 5, 6, 7);
    c.due("way(7, 0)", x.way(7, 0), 7);
    c.lie("way(7, 0)", x, 7, 6, 5, 4, 3, 2, 1, 0);
    c.due("way(7, 7)", x.way(7, 7), 0);
    c.lie("way(7, 7)", x, 7);
    c.due("way(7, 8)", x.way(7, 8), -1);
    c.lie("way(7, 8)", x);
    // the first of like ones is by its first ROOM that is another, whichever DOOR was told first
    x = Checks.of("room s;room a;room b;room c;room d;room t;door s b;door b c;door c t;door s a;door a d;door d t;door b d;");
    c.due("way(0, 5)", x.way(0, 5), 3);
    c.lie("way(0, 5)", x, 0, 1, 4, 5);
    c.due("way(5, 0)", x.way(5, 0), 3);
    c.lie("way(5, 0)", x, 5, 3, 2, 0);
    twins.onlyLays("way(2, 0)", 2, y -> y.way(2, 0), 2, 1, 0);
    twins.onlyLays("way(3, 3)", 0, y -> y.way(3, 3), 3);
    twins.onlyLays("way(0, 3)", -1, y -> y.way(0, 3));
    twins.onlyLays("way(3, 0)", -1, y -> y.way(3, 0));
    layNothing("way first", n -> y -> y.way(n, 0));
    layNothing("way second", n -> y -> y.way(0, n));
    c.due("way(0, 0) of nothing", new SoldHouse().way(0, 0), -1);
  }

  private static void theQuiet() {
    c.promise(18, "QUIET way: creaks together; NONE if there is none, or one can't be");
    c.promise(18, "ROOMS lie there then, from the first one on (behind NONE: nothing)");
    c.term("QUIET way: that by which creaks of the ROOMS that are come to (not the one it begins in) are least together; of like ones the fewest DOORS, then the first");
    SoldHouse x = Checks.of(LINE.replace("creaks 1", "creaks 9"));
    c.due("quiet(0, 7)", x.quiet(0, 7), 63);
    c.lie("quiet(0, 7)", x, 0, 1, 2, 3, 4, 5, 6, 7);
    c.due("quiet(7, 7)", x.quiet(7, 7), 0);
    c.lie("quiet(7, 7)", x, 7);
    c.due("quiet(8, 7)", x.quiet(8, 7), -1);
    c.lie("quiet(8, 7)", x);
    // by the short way 9, by the long one 8, 9 or 10
    for (int creaks = 1; creaks <= 3; creaks++) {
      x = Checks.of("room a creaks 9;room b creaks 9;room c creaks 4;room d creaks 3;room e creaks " + creaks + ";room f;"
          + "door a b;door b f;door a c;door c d;door d e;door e f;");
      c.due("quiet(0, 5) by " + creaks, x.quiet(0, 5), Math.min(9, 7 + creaks));
      if (creaks == 1) c.lie("8 against 9", x, 0, 2, 3, 4, 5); else c.lie("9 or 10 against 9", x, 0, 1, 5);
      c.due("quiet(5, 0) by " + creaks, x.quiet(5, 0), Math.min(9, 7 + creaks) + 9);
      if (creaks == 1) c.lie("back 17 against 18", x, 5, 4, 3, 2, 0); else c.lie("back 18", x, 5, 1, 0);
    }
    // all silent: the fewest DOORS, then the first
    x = Checks.of("room s;room a;room b;room c;room t;door s c;door c t;door s b;door b t;door s a;door a b;");
    c.due("quiet(0, 4)", x.quiet(0, 4), 0);
    c.lie("quiet(0, 4)", x, 0, 2, 4);
    c.due("quiet(1, 3)", x.quiet(1, 3), 0);
    c.lie("quiet(1, 3)", x, 1, 0, 3);
    // a way round of seven DOORS against one that creaks as much, and more
    String round = LINE.replace("creaks 1", "creaks 0") + "door h a;";
    x = Checks.of(round.replace("room h creaks 0", "room h creaks 9"));
    c.due("round quiet(0, 7)", x.quiet(0, 7), 9);
    c.lie("round quiet(0, 7)", x, 0, 7);
    c.due("round quiet(6, 0)", x.quiet(6, 0), 0);
    c.lie("round quiet(6, 0)", x, 6, 5, 4, 3, 2, 1, 0);
    twins.onlyLays("quiet(0, 2)", 14, y -> y.quiet(0, 2), 0, 1, 2);
    twins.onlyLays("quiet(2, 0)", 6, y -> y.quiet(2, 0), 2, 1, 0);
    twins.onlyLays("quiet(3, 3)", 0, y -> y.quiet(3, 3), 3);
    twins.onlyLays("quiet(0, 3)", -1, y -> y.quiet(0, 3));
    layNothing("quiet first", n -> y -> y.quiet(n, 0));
    layNothing("quiet second", n -> y -> y.quiet(0, n));
    c.due("quiet(0, 0) of nothing", new SoldHouse().quiet(0, 0), -1);
  }

  private static void theWays() {
    c.promise(19, "How many WAYS have as few DOORS (1 for one ROOM); NONE if there is none, or one can't be");
    for (int n = 0; n <= 6; n++) {
      SoldHouse x = Checks.of(lanes(n));
      c.due("ways(0, 1) of " + n + " lanes", x.ways(0, 1), n == 0 ? -1 : n);
      c.due("ways(1, 0) of " + n + " lanes", x.ways(1, 0), n == 0 ? -1 : n);
      c.due("ways(0, 0) of " + n + " lanes", x.ways(0, 0), 1);
    }
    for (int a = 0; a < 8; a++) {
      for (int b = 0; b < 8; b++) {
        c.due("ways(" + a + ", " + b + ") in a line", Checks.of(LINE).ways(a, b), 1);
        c.due("ways(" + a + ", " + b + ") in a ring", Checks.of(LINE + "door h a;").ways(a, b), Math.abs(a - b) == 4 ? 2 : 1);
      }
    }
    // longer ones do not count; ways that part and join again multiply
    SoldHouse x = Checks.of("room a;room b;room c;room d;room e;room f;room g;door a b;door a c;door b d;door c d;door d e;door d f;door e g;door f g;door a g;");
    c.due("ways(0, 6)", x.ways(0, 6), 1);
    c.due("ways(0, 3)", x.ways(0, 3), 2);
    c.due("ways(1, 4)", x.ways(1, 4), 1);
    x = Checks.of("room a;room b;room c;room d;room e;room f;room g;door a b;door a c;door b d;door c d;door d e;door d f;door e g;door f g;");
    c.due("ways(0, 6) of two times two", x.ways(0, 6), 4);
    twins.still("ways(0, 2)", 1, y -> y.ways(0, 2));
    twins.still("ways(0, 3)", -1, y -> y.ways(0, 3));
    noRoom("ways first", n -> y -> y.ways(n, 0));
    noRoom("ways second", n -> y -> y.ways(0, n));
    noRoom("ways both", n -> y -> y.ways(n, n));
    c.due("ways(0, 0) of nothing", new SoldHouse().ways(0, 0), -1);
  }

  private static void thePieces() {
    c.promise(20, "In how many pieces ROOMS lie that no DOORS join");
    c.due("of nothing", new SoldHouse().pieces(), 0);
    for (int n = 1; n <= 8; n++) {
      c.due("a line of " + n, Checks.of(line(n)).pieces(), 1);
      c.due(n + " without DOORS", Checks.of(line(n).replaceAll("door . .;", "")).pieces(), n);
    }
    c.due("SQUARE", Checks.of(SQUARE).pieces(), 2);
    String six = "room a;room b;room c;room d;room e;room f;";
    c.due("told by turns", Checks.of(six + "door a c;door c e;door b d;door d f;").pieces(), 2);
    c.due("told by turns, one alone", Checks.of(six + "door a c;door c e;door d f;").pieces(), 3);
    c.due("the last with the first", Checks.of(six + "door f a;").pieces(), 5);
    twins.still("pieces()", 2, SoldHouse::pieces);
  }

  private static void theParts() {
    c.promise(21, "DOORS that PART the house, as bits");
    c.term("PARTS: a DOOR PARTS the house, if without it no DOORS lead from one of its ROOMS to the other one; its NEAR side: all ROOMS to which DOORS lead from its first ROOM without it");
    c.due("of nothing", new SoldHouse().parts(), 0);
    c.due("without DOORS", Checks.of(APART).parts(), 0);
    for (int n = 2; n <= 8; n++) {
      SoldHouse x = Checks.of(line(n));
      c.due("a line of " + n, x.parts(), (1 << n - 1) - 1);
      for (int d = 0; d + 1 < n; d++) c.due("NEAR side of " + d, x.door(d, 3), (1 << d + 1) - 1);
      if (n > 2) c.due("a ring of " + n, Checks.of(line(n) + "door a " + (char) ('a' + n - 1) + ";").parts(), 0);
    }
    // 12 DOORS: the last of them may part
    SoldHouse x = Checks.of(TWELVE);
    c.due("parts() of 12", x.parts(), 1 << 11);
    c.due("NEAR side of the last", x.door(11, 3), 128);
    c.due("NEAR side of one that does not part", x.door(0, 3), 255);
    x = Checks.of("room a;room b;room c;door b a;");
    c.due("NEAR is the first one's side", x.door(0, 3), 2);
    twins.still("parts()", 3, SoldHouse::parts);
  }

  private static void theHunt() {
    c.promise(22, "HUNT (ROOMS as bits, one at least): how many DOORS (0 for one ROOM); NONE if it can't be known so, or one can't be");
    c.term("HUNT for a THING that is in one of some ROOMS: the fewest DOORS that PART the house of which to ask whether it is on their NEAR side, at the worst, each by what was said ahead, so that its ROOM is known");
    int[] asks = {0, 1, 2, 2, 3, 3, 3, 3};
    SoldHouse x = Checks.of(LINE);
    for (int n = 1; n <= 8; n++) c.due("hunt of " + n + " in a line", x.hunt((1 << n) - 1), asks[n - 1]);
    for (int r = 0; r < 8; r++) c.due("hunt of one", x.hunt(1 << r), 0);
    c.due("hunt(129)", x.hunt(129), 1);
    c.due("hunt(0)", x.hunt(0), -1);
    c.due("hunt(256)", x.hunt(256), -1);
    c.due("hunt(257)", x.hunt(257), -1);
    c.due("hunt(511)", x.hunt(511), -1);
    // in a star each DOOR tells of one ROOM alone
    for (int n = 2; n <= 8; n++) c.due("hunt of a star of " + n, Checks.of(star(n)).hunt((1 << n) - 1), n - 1);
    x = Checks.of(SQUARE);
    c.due("in the ring", x.hunt(3), -1);
    c.due("in the ring and behind it", x.hunt(19), -1);
    c.due("one in the ring, and behind it", x.hunt(17), 1);
    c.due("by itself, and behind the ring", x.hunt(48), 1);
    c.due("by itself, and in the ring", x.hunt(33), -1);
    x = Checks.of(APART);
    c.due("hunt(3) without DOORS", x.hunt(3), -1);
    c.due("hunt(2) without DOORS", x.hunt(2), 0);
    c.due("hunt(4) of two ROOMS", x.hunt(4), -1);
    c.due("hunt(1) of nothing", new SoldHouse().hunt(1), -1);
    c.due("hunt(0) of nothing", new SoldHouse().hunt(0), -1);
    // 12 DOORS, of which the last alone parts
    x = Checks.of(TWELVE);
    c.due("hunt(129) of 12 DOORS", x.hunt(129), 1);
    c.due("hunt(131) of 12 DOORS", x.hunt(131), -1);
    c.due("first(129) of 12 DOORS", x.first(129), 11);
    c.due("first(131) of 12 DOORS", x.first(131), -1);
    twins.still("hunt(7)", 2, y -> y.hunt(7));
    twins.still("hunt(15)", -1, y -> y.hunt(15));
    for (int set : new int[] {0, 16, 17, 31, 256, -1, -16, 1 << 30, Integer.MIN_VALUE, Integer.MIN_VALUE + 1, Integer.MAX_VALUE}) {
      twins.still("hunt(" + set + ")", -1, y -> y.hunt(set));
    }
  }

  private static void theFirst() {
    c.promise(23, "The DOOR to ask of first in a HUNT of so few (of like ones the first); NONE if there is none, or nothing to ask");
    SoldHouse x = Checks.of(LINE);
    int[] first = {-1, 0, 0, 1, 0, 1, 2, 3};
    for (int n = 1; n <= 8; n++) c.due("first of " + n + " in a line", x.first((1 << n) - 1), first[n - 1]);
    for (int r = 0; r < 8; r++) c.due("first of one", x.first(1 << r), -1);
    c.due("first(129)", x.first(129), 0);
    c.due("first(192)", x.first(192), 6);
    c.due("first(0)", x.first(0), -1);
    c.due("first(256)", x.first(256), -1);
    c.due("first of a star", Checks.of(star(8)).first(255), 0);
    c.due("first of a star's last", Checks.of(star(8)).first(192), 5);
    x = Checks.of(SQUARE);
    c.due("in the ring", x.first(3), -1);
    c.due("in the ring and behind it", x.first(19), -1);
    c.due("one in the ring, and behind it", x.first(17), 4);
    c.due("first(1) of nothing", new SoldHouse().first(1), -1);
    twins.still("first(7)", 0, y -> y.first(7));
    twins.still("first(15)", -1, y -> y.first(15));
    for (int set : new int[] {0, 16, 17, 31, 256, -1, -16, 1 << 30, Integer.MIN_VALUE, Integer.MIN_VALUE + 1, Integer.MAX_VALUE}) {
      twins.still("first(" + set + ")", -1, y -> y.first(set));
    }
  }

  private static void theMeet() {
    c.promise(24, "MEET what 0: how many minutes, 1: the ROOM; NONE if they can't, or one can't be");
    c.term("MEET of two ROOMS: the fewest minutes by which two, one in each, can be in one ROOM, each going by a DOOR, or staying, in each; of like ones the first ROOM");
    SoldHouse x = Checks.of(LINE);
    for (int a = 0; a < 8; a++) {
      for (int b = 0; b < 8; b++) {
        int far = Math.abs(a - b);
        c.due("meet(" + a + ", " + b + ", 0)", x.meet(a, b, 0), (far + 1) / 2);
        // with an odd number of DOORS one of them waits: two ROOMS, of which the first counts
        c.due("meet(" + a + ", " + b + ", 1)", x.meet(a, b, 1), (a + b) / 2);
      }
    }
    c.due("meet(0, 8, 0)", x.meet(0, 8, 0), -1);
    x = Checks.of(lanes(6));
    c.due("six lanes: meet(0, 1, 0)", x.meet(0, 1, 0), 1);
    c.due("six lanes: meet(0, 1, 1)", x.meet(0, 1, 1), 2);
    twins.still("meet(0, 2, 0)", 1, y -> y.meet(0, 2, 0));
    twins.still("meet(0, 2, 1)", 1, y -> y.meet(0, 2, 1));
    twins.still("meet(3, 3, 0)", 0, y -> y.meet(3, 3, 0));
    twins.still("meet(3, 3, 1)", 3, y -> y.meet(3, 3, 1));
    twins.still("meet(0, 3, 0)", -1, y -> y.meet(0, 3, 0));
    twins.still("meet(0, 3, 1)", -1, y -> y.meet(0, 3, 1));
    noRoom("meet first", n -> y -> y.meet(n, 0, 0));
    noRoom("meet second", n -> y -> y.meet(0, n, 1));
    noRoom("meet both", n -> y -> y.meet(n, n, 0));
    noWhat("meet", n -> y -> y.meet(0, 2, n));
    noWhat("meet in one ROOM", n -> y -> y.meet(1, 1, n));
  }

  private static void theBar() {
    c.promise(25, "BAR what 0: how many, 1: which, as bits; NONE if 3 are not enough, both are one, or one can't be");
    c.term("BAR of two ROOMS: the fewest other ROOMS (3 at most) without which no DOORS lead from the one to the other one; of like ones the least set as bits");
    for (int n = 0; n <= 6; n++) {
      SoldHouse x = Checks.of(lanes(n));
      c.due(n + " lanes: how many", x.bar(0, 1, 0), n <= 3 ? n : -1);
      c.due(n + " lanes: which", x.bar(0, 1, 1), n <= 3 ? (1 << n) - 1 << 2 : -1);
      c.due(n + " lanes, from the other end", x.bar(1, 0, 1), n <= 3 ? (1 << n) - 1 << 2 : -1);
    }
    SoldHouse x = Checks.of(LINE);
    c.due("line: bar(0, 7, 0)", x.bar(0, 7, 0), 1);
    c.due("line: bar(0, 7, 1)", x.bar(0, 7, 1), 2);
    c.due("line: bar(7, 0, 1)", x.bar(7, 0, 1), 2);
    c.due("line: bar(6, 7, 0)", x.bar(6, 7, 0), -1);
    c.due("line: bar(5, 7, 1)", x.bar(5, 7, 1), 64);
    // two at each end of a ladder: the least set as bits is not the nearest one
    x = Checks.of("room a;room b;room c;room d;room e;room f;door f d;door f e;door d b;door e c;door b a;door c a;");
    c.due("ladder: bar(5, 0, 0)", x.bar(5, 0, 0), 2);
    c.due("ladder: bar(5, 0, 1)", x.bar(5, 0, 1), 6);
    c.due("ladder: bar(0, 5, 1)", x.bar(0, 5, 1), 6);
    c.due("apart: how many", Checks.of(APART).bar(0, 1, 0), 0);
    c.due("apart: which", Checks.of(APART).bar(0, 1, 1), 0);
    twins.still("bar(0, 2, 0)", 1, y -> y.bar(0, 2, 0));
    twins.still("bar(0, 2, 1)", 2, y -> y.bar(0, 2, 1));
    twins.still("bar(0, 3, 1)", 0, y -> y.bar(0, 3, 1));
    twins.still("bar(0, 1, 0)", -1, y -> y.bar(0, 1, 0));
    for (int r = 0; r < 4; r++) {
      int room = r;
      twins.still("bar of " + r + " and itself", -1, y -> y.bar(room, room, 0));
      twins.still("bar of " + r + " and itself, which", -1, y -> y.bar(room, room, 1));
    }
    noRoom("bar first", n -> y -> y.bar(n, 0, 0));
    noRoom("bar second", n -> y -> y.bar(0, n, 1));
    noRoom("bar both", n -> y -> y.bar(n, n, 0));
    noWhat("bar", n -> y -> y.bar(0, 2, n));
  }

  private static void theTour() {
    c.promise(26, "TOUR (ROOMS as bits): how many DOORS; NONE if one can't be come to, or one can't be");
    c.promise(26, "These ROOMS lie there then, in order (behind NONE: nothing)");
    c.term("TOUR from a ROOM of some ROOMS: the order in which to come to all of these (each by the fewest DOORS from the one ahead), so that it takes fewest DOORS; of like ones the first");
    SoldHouse x = Checks.of(LINE);
    c.due("tour(0, 255)", x.tour(0, 255), 7);
    c.lie("tour(0, 255)", x, 0, 1, 2, 3, 4, 5, 6, 7);
    c.due("tour(7, 255)", x.tour(7, 255), 7);
    c.lie("tour(7, 255)", x, 7, 6, 5, 4, 3, 2, 1, 0);
    c.due("tour(0, 128)", x.tour(0, 128), 7);
    c.lie("tour(0, 128)", x, 7);
    c.due("tour(4, 129)", x.tour(4, 129), 10);
    c.lie("tour(4, 129)", x, 7, 0);
    c.due("tour(3, 129)", x.tour(3, 129), 10);
    c.lie("tour(3, 129)", x, 0, 7);
    c.due("tour(7, 0)", x.tour(7, 0), 0);
    c.lie("tour(7, 0)", x);
    c.due("tour(7, 128)", x.tour(7, 128), 0);
    c.lie("tour(7, 128)", x, 7);
    c.due("tour(7, 256)", x.tour(7, 256), -1);
    c.lie("tour(7, 256)", x);
    c.due("tour(8, 1)", x.tour(8, 1), -1);
    // on a new object each, from within and from without
    for (int a = 0; a < 8; a++) {
      for (int b = 0; b < 8; b++) {
        x = Checks.of(LINE);
        c.due("new tour(" + a + ", of " + b + ")", x.tour(a, 1 << b), Math.abs(a - b));
        c.lie("new tour(" + a + ", of " + b + ")", x, b);
      }
    }
    for (int a = 0; a < 8; a++) {
      int low = Math.min(a, 7 - a);
      x = Checks.of(LINE);
      c.due("new tour(" + a + ", 129)", x.tour(a, 129), low + 7);
      c.lie("new tour(" + a + ", 129)", x, a <= 3 ? new int[] {0, 7} : new int[] {7, 0});
      x = Checks.of(LINE);
      c.due("new tour(" + a + ", all others)", x.tour(a, 255 & ~(1 << a)), low + 7);
    }
    x = Checks.of(star(8));
    c.due("star tour(0, 255)", x.tour(0, 255), 13);
    c.lie("star tour(0, 255)", x, 0, 1, 2, 3, 4, 5, 6, 7);
    c.due("star tour(7, 254)", x.tour(7, 254), 12);
    c.lie("star tour(7, 254)", x, 7, 1, 2, 3, 4, 5, 6);
    x = Checks.of(SQUARE);
    c.due("one that can't be come to", x.tour(0, 33), -1);
    c.lie("one that can't be come to", x);
    c.due("from one by itself", x.tour(5, 1), -1);
    c.due("nothing, from one by itself", x.tour(5, 0), 0);
    twins.onlyLays("tour(0, 7)", 2, y -> y.tour(0, 7), 0, 1, 2);
    twins.onlyLays("tour(0, 0)", 0, y -> y.tour(0, 0));
    twins.onlyLays("tour(3, 8)", 0, y -> y.tour(3, 8), 3);
    twins.onlyLays("tour(0, 15)", -1, y -> y.tour(0, 15));
    twins.onlyLays("tour(3, 1)", -1, y -> y.tour(3, 1));
    layNothing("tour from", n -> y -> y.tour(n, 0));
    for (int set : new int[] {16, 17, 31, 256, -1, -16, 1 << 30, Integer.MIN_VALUE, Integer.MIN_VALUE + 1, Integer.MAX_VALUE}) {
      twins.onlyLays("tour(0, " + set + ")", -1, y -> y.tour(0, set));
    }
    c.due("tour(0, 0) of nothing", new SoldHouse().tour(0, 0), -1);
  }

  private static void theCentre() {
    c.promise(27, "The ROOM of which the farthest one (of those to which DOORS lead) is least FAR; of like ones the first; NONE without ROOMS");
    c.due("of nothing", new SoldHouse().centre(), -1);
    for (int n = 1; n <= 8; n++) c.due("a line of " + n, Checks.of(line(n)).centre(), (n - 1) / 2);
    c.due("without DOORS", Checks.of(APART).centre(), 0);
    c.due("a ring", Checks.of(LINE + "door a h;").centre(), 0);
    c.due("the last, by itself", Checks.of(line(7) + "room h;").centre(), 7);
    twins.still("centre()", 3, SoldHouse::centre);
  }

  private static void theNooks() {
    c.promise(28, "ROOMS with one DOOR at most, as bits");
    c.due("of nothing", new SoldHouse().nooks(), 0);
    int[] due = {1, 3, 5, 9, 17, 33, 65, 129};
    for (int n = 1; n <= 8; n++) c.due("a line of " + n, Checks.of(line(n)).nooks(), due[n - 1]);
    c.due("a ring", Checks.of(LINE + "door a h;").nooks(), 0);
    c.due("a star", Checks.of(star(8)).nooks(), 254);
    c.due("without DOORS", Checks.of(APART).nooks(), 3);
    twins.still("nooks()", 13, SoldHouse::nooks);
  }

  private static void theEcho() {
    c.promise(29, "Creaks of all ROOMS so FAR (0 .. 8) at most from one together; NONE if one can't be");
    SoldHouse x = Checks.of(LINE.replace("creaks 1", "creaks 9"));
    for (int far = 0; far <= 8; far++) c.due("echo(0, " + far + ")", x.echo(0, far), 9 * Math.min(8, far + 1));
    c.due("echo(3, 1)", x.echo(3, 1), 27);
    c.due("echo(7, 8)", x.echo(7, 8), 72);
    c.due("echo(7, 9)", x.echo(7, 9), -1);
    c.due("echo(8, 8)", x.echo(8, 8), -1);
    for (int far = 0; far <= 8; far++) c.due("apart: echo(1, " + far + ")", Checks.of(APART).echo(1, far), 5);
    twins.still("echo(0, 8)", 15, y -> y.echo(0, 8));
    twins.still("echo(0, 0)", 1, y -> y.echo(0, 0));
    noRoom("echo from", n -> y -> y.echo(n, 1));
    for (int far : NEVER) twins.still("echo(0, " + far + ")", -1, y -> y.echo(0, far));
    for (int far : new int[] {9, 10, 99, 256}) twins.still("echo(0, " + far + ")", -1, y -> y.echo(0, far));
    c.due("echo(0, 0) of nothing", new SoldHouse().echo(0, 0), -1);
  }

  private static void theLies() {
    c.promise(41, "The i-th number of what lies there; NONE if there is none such");
    for (int n = 0; n < 8; n++) {
      SoldHouse x = Checks.of(LINE);
      x.way(0, n);
      for (int i = 0; i <= n; i++) c.due("lies(" + i + ") of " + (n + 1), x.lies(i), i);
      for (int i = n + 1; i <= 9; i++) c.due("lies(" + i + ") of " + (n + 1), x.lies(i), -1);
    }
    twins.still("lies(0)", 0, y -> y.lies(0));
    twins.still("lies(2)", 2, y -> y.lies(2));
    for (int i : NEVER) twins.still("lies(" + i + ")", -1, y -> y.lies(i));
    for (int i : new int[] {3, 4, 7, 8, 9, 256}) twins.still("lies(" + i + ")", -1, y -> y.lies(i));
    SoldHouse x = new SoldHouse();
    c.due("lies(0) at first", x.lies(0), -1);
    // the latest counts, and what is shorter leaves nothing of what was longer
    x = Checks.of(LINE);
    x.way(0, 7);
    x.quiet(2, 3);
    c.lie("quiet behind way", x, 2, 3);
    x.tour(5, 32 + 64);
    c.lie("tour behind quiet", x, 5, 6);
    x.tour(5, 0);
    c.lie("an empty tour", x);
    x.way(0, 7);
    x.house();
    c.lie("behind a house", x);
  }
}
