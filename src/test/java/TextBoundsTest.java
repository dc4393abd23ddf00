import java.util.ArrayList;
import java.util.Arrays;
import java.util.List;

/** The bounds of promises 1 to 5 and of a HOUSE's text: the last that can be, the first that can't, what is left behind. */
public final class TextBoundsTest {
  private static final Checks c = new Checks("TextBoundsTest");
  private static final Twins twins = new Twins(c, Twins::full);
  private static final String[] OWN = {"room", "creaks", "door", "thing", "in", "was", "ours", "us", "them", "sure", "draw",
      "or", "and", "not", "far", "told", "day"};
  private static final String[] SORTS = {"room", "creaks", "door", "thing", "in", "was", "ours", "us", "them", "sure", "draw", "or", "and",
      "not", "far", "told", "day", "name", "7", ";", "(", ")", "<", ">", "=", "+", "-", "*", "/", "%"};
  private static final String OPTIONS = "; was ours us them";
  private static final String[] DOORS = {"a b", "a c", "a d", "a e", "a f", "a g", "a h", "b c", "b d", "b e", "b f", "b g"};
  /** As many of each sort as can be, with the most that can be told of each. */
  private static final String MOST = doors(12).replace(";room", " creaks 9;room")
      + "thing p in h was a ours us 50 them 50;thing q in g was b ours us 50 them 50;thing r in f was c ours us 50 them 50;"
      + "thing s in e was d ours us 50 them 50;thing t in d was e ours us 50 them 50;thing u in c was f ours us 50 them 50;";
  /** Of the texts in severalHouses() the first so many have no FAULT. */
  private static final int FINE = 5;
  private static final int[] NEVER = {-1, -2, -20, Integer.MIN_VALUE, Integer.MIN_VALUE + 1, Integer.MAX_VALUE};

  public static void main(String[] args) {
    theNewObject();
    theFeed();
    theEnd();
    theHouse();
    theFault();
    theLength();
    theLines();
    theTokens();
    theNames();
    theRooms();
    theDoors();
    theThings();
    theRest();
    theUnits();
    theDepth();
    theFaults();
    theFormula();
    c.finish();
  }

  private static SoldHouse holding(String text) {
    SoldHouse x = Twins.full();
    x.end(0);
    Checks.put(x, text);
    return x;
  }

  /** A FAULT, and all stays, the TAPE too. */
  private static void fault(String text, int fault, int place) {
    SoldHouse x = holding(text);
    String call = "house() of [" + text + "]";
    c.due(call, x.house(), -1);
    c.due(call + " fault(0)", x.fault(0), fault);
    c.due(call + " fault(1)", x.fault(1), place);
    c.same(call, Twins.all(x, true, false), Twins.all(holding(text), true, false));
  }

  /** No FAULT, and nothing of the HOUSE ahead is left but the TIME. */
  private static SoldHouse good(String text, int rooms) {
    SoldHouse x = holding(text);
    String call = "house() of [" + text + "]";
    c.due(call, x.house(), rooms);
    c.due(call + " fault(0)", x.fault(0), 0);
    c.due(call + " fault(1)", x.fault(1), -1);
    c.due(call + " ROOMS", x.about(0), rooms);
    for (int what : new int[] {3, 5, 6, 7, 9, 11}) c.due(call + " about(" + what + ")", x.about(what), 0);
    c.due(call + " the TIME stays", x.about(8), 15);
    return x;
  }

  private static void theNewObject() {
    c.promise(1, "An empty HOUSE");
    SoldHouse x = new SoldHouse();
    for (int what = 0; what <= 11; what++) c.due("about(" + what + ")", x.about(what), 0);
    for (int what = 0; what <= 3; what++) {
      c.due("room(0, " + what + ")", x.room(0, what), -1);
      c.due("door(0, " + what + ")", x.door(0, what), -1);
    }
    for (int what = 0; what <= 7; what++) c.due("thing(0, " + what + ")", x.thing(0, what), -2);
    c.due("undo()", x.undo(), false);
    c.due("redo()", x.redo(), false);
    for (int box = 0; box < 3; box++) c.due("back(" + box + ")", x.back(box), -1);
    c.due("lies(0)", x.lies(0), -1);
    c.due("pieces()", x.pieces(), 0);
    c.due("centre()", x.centre(), -1);
    c.due("walks(0)", x.walks(0), 0);
    c.due("fault(0)", x.fault(0), 0);
    c.due("fault(1)", x.fault(1), -1);
    // an object knows nothing of another one
    SoldHouse other = Twins.full();
    c.due("the other's ROOMS", other.about(0), 4);
    c.due("its own ROOMS", x.about(0), 0);
    c.due("its own TIME", x.about(8), 0);
    c.due("its own bytes", x.about(9), 0);
    // and a HOUSE whose text is empty is no other one
    SoldHouse emptied = Twins.full();
    emptied.end(0);
    c.due("house() of nothing", emptied.house(), 0);
    for (int what = 0; what <= 11; what++) c.due("emptied about(" + what + ")", emptied.about(what), what == 8 ? 15 : 0);
  }

  /** Twenty numbers 0 .. 255 as feed takes them. */
  private static int feed(SoldHouse x, int[] bytes) {
    int[] n = new int[5];
    for (int i = 0; i < 20; i++) n[i / 4] = n[i / 4] << 8 | bytes[i];
    return x.feed(n[0], n[1], n[2], n[3], n[4]);
  }

  private static void theFeed() {
    c.promise(2, "Twenty bytes come behind those on the TAPE, of each number the highest first");
    for (int ahead : new int[] {0, 20, 7}) {
      for (int i = 0; i < 20; i++) {
        SoldHouse x = new SoldHouse();
        Checks.put(x, " ".repeat(ahead));
        int[] bytes = new int[20];
        Arrays.fill(bytes, 32);
        bytes[i] = 255;
        c.due("feed() behind " + ahead, feed(x, bytes), ahead + 20);
        c.due("house()", x.house(), -1);
        c.due("its FAULT", x.fault(0), 1);
        c.due("byte " + i + " behind " + ahead, x.fault(1), ahead + i);
      }
    }
    SoldHouse x = new SoldHouse();
    x.feed(0x726f6f6d, 0x20616263, 0x64656667, 0x683b726f, 0x6f6d2069); // room abcdefgh;room i
    x.feed(0x20637265, 0x616b7320, 0x393b2020, 0x20202020, 0x20202020); // creaks 9;
    c.due("house() of two feeds", x.house(), 2);
    c.due("creaks of the second", x.room(1, 0), 9);
    c.promise(2, "how many there are");
    x = new SoldHouse();
    for (int i = 1; i <= 80; i++) {
      c.due("feed " + i, x.feed(0, -1, Integer.MIN_VALUE, Integer.MAX_VALUE, 1), 20 * i);
      c.due("about(9)", x.about(9), 20 * i);
    }
    c.promise(2, "NONE, and nothing comes, if there would be more than 1,600");
    c.due("feed at 1600", x.feed(0, 0, 0, 0, 0), -1);
    c.due("about(9)", x.about(9), 1600);
    for (int size = 1578; size <= 1583; size++) {
      SoldHouse y = new SoldHouse();
      Checks.put(y, " ".repeat(size - 7) + "room a;");
      boolean fits = size <= 1580;
      c.due("feed at " + size, y.feed(0x20202020, 0x20202020, 0x20202020, 0x20202020, 0x20202020), fits ? size + 20 : -1);
      c.due("about(9)", y.about(9), fits ? size + 20 : size);
      c.due("end of more", y.end(fits ? size + 21 : size + 1), -1);
      c.due("house() of what is there", y.house(), 1);
    }
    Twins full = new Twins(c, () -> {
      SoldHouse y = holding("room q creaks 7;" + " ".repeat(1565));
      y.tell(1);
      return y;
    });
    full.still("feed at 1581", -1, y -> y.feed(-1, -1, -1, -1, -1));
  }

  private static void theEnd() {
    c.promise(3, "The TAPE has its first n bytes: n");
    for (int n = 0; n <= 23; n++) {
      SoldHouse x = Twins.full();
      c.due("end(" + n + ")", x.end(n), n);
      c.due("about(9) at " + n, x.about(9), n);
      c.due("end(" + (n + 1) + ") behind that", x.end(n + 1), -1);
      c.due("feed behind that", x.feed(0x20202020, 0x20202020, 0x20202020, 0x20202020, 0x24202020), n + 20);
      x.house();
      // of "room q creaks 7;room q;" n bytes, then blanks and a byte that is no TOKEN
      int[] place = {16, 0, 0, 0, 20, 5 + 16, 22, 23, 7, 7, 7, 7, 7, 29, 30, 31, 32, 16, 16, 16, 36, 37, 21, 21};
      c.due("fault(1) at " + n, x.fault(1), place[n]);
    }
    SoldHouse x = new SoldHouse();
    Checks.put(x, "room a;room b;");
    c.due("end(7)", x.end(7), 7);
    Checks.put(x, "room c;room d;");
    c.due("house() of what came behind", x.house(), 3);
    // what was cut off is not read: neither the rest of a word, nor of an N, nor a letter behind it
    int[][] cuts = {{3, 2, 0}, {4, 2, 4}, {5, 2, 5}, {6, 2, 6}, {7, 2, 7}, {12, 2, 7}, {13, 2, 13}, {14, 2, 14}, {15, 2, 15}, {16, 1, 14}};
    for (int[] cut : cuts) {
      x = new SoldHouse();
      Checks.put(x, "room a creaks 01x;");
      c.due("end(" + cut[0] + ")", x.end(cut[0]), cut[0]);
      if (cut[0] == 16) x.feed(0x78202020, 0x20202020, 0x20202020, 0x20202020, 0x20202020);
      c.due("house() of " + cut[0], x.house(), -1);
      c.due("fault(0) of " + cut[0], x.fault(0), cut[1]);
      c.due("fault(1) of " + cut[0], x.fault(1), cut[2]);
    }
    x = new SoldHouse();
    Checks.put(x, "room a;draw 12;");
    x.end(13);
    x.feed(0x3b202020, 0x20202020, 0x20202020, 0x20202020, 0x20202020);
    c.due("house() of a number cut short", x.house(), 1);
    c.due("the number", x.about(4), 1);
    Twins like = new Twins(c, () -> holding("room q creaks 7;room q;"));
    like.still("end(23) of 23", 23, y -> y.end(23));
    c.promise(3, "NONE, doing nothing, if it has not so many, or n is below 0");
    for (int n : NEVER) twins.still("end(" + n + ")", -1, y -> y.end(n));
    for (int n : new int[] {24, 25, 40, 1600, 1601}) twins.still("end(" + n + ")", -1, y -> y.end(n));
    SoldHouse bare = new SoldHouse();
    c.due("end(0) of nothing", bare.end(0), 0);
    c.due("end(1) of nothing", bare.end(1), -1);
    Checks.put(bare, " ".repeat(1600));
    c.due("end(1601) of 1600", bare.end(1601), -1);
    c.due("end(1600) of 1600", bare.end(1600), 1600);
  }

  private static void theHouse() {
    c.promise(4, "The TAPE (empty then) is the HOUSE");
    SoldHouse x = good("room a;", 1);
    c.due("end(1)", x.end(1), -1);
    c.due("house() of the empty TAPE", x.house(), 0);
    c.due("no ROOM", x.room(0, 0), -1);
    c.promise(4, "(all as told, day 0, no ACTS are kept, nothing is HEARD, nothing lies there, BOXES are empty then; the TIME stays)");
    String text = "room a;room b creaks 4;door a b;thing t in a was b ours us 7 them 8;sure 40+told;draw 9;";
    x = Checks.of(text);
    x.later(7);
    x.tell(0);
    x.hear(0);
    x.carry(0, 0);
    x.send(0);
    x.day();
    x.day();
    x.image(0);
    x.image(1);
    x.image(2);
    x.undo();
    x.heard(0, 4, true);
    x.seen(7, 0, true);
    x.untell(0);
    x.way(0, 1);
    Checks.put(x, text);
    c.due("the same HOUSE again", x.house(), 2);
    int[] thing = {0, 1, 1, 7, 8, 0, -1, 40};
    for (int what = 0; what < 8; what++) c.due("as told: thing(0, " + what + ")", x.thing(0, what), thing[what]);
    int[] about = {2, 1, 1, 0, 9, 0, 0, 0, 7, 0, 2, 0};
    for (int what = 0; what < 12; what++) c.due("about(" + what + ")", x.about(what), about[what]);
    c.due("undo()", x.undo(), false);
    c.due("redo()", x.redo(), false);
    c.due("lies(0)", x.lies(0), -1);
    c.due("untell(0)", x.untell(0), false);
    c.due("walks(7)", x.walks(7), 256);
    for (int box = 0; box < 3; box++) c.due("back(" + box + ")", x.back(box), -1);
    c.due("later(0)", x.later(0), 7);
    severalHouses();
    c.promise(4, "how many ROOMS");
    StringBuilder rooms = new StringBuilder();
    good("", 0);
    for (int n = 1; n <= 8; n++) good(rooms.append("room ").append((char) ('a' + n)).append(';').toString(), n);
    c.promise(4, "NONE: a FAULT (all stays)");
    fault(rooms + "room z;", 2, rooms.length());
    fault("room a;room b;door a b;thing t in a;sure 1;draw 1;;", 2, 50);
    fault(" ".repeat(1600 - 6) + "room a", 2, 1600);
  }

  /** HOUSES and FAULTS behind one another on one object: of the last one nothing is but what it tells. */
  private static void severalHouses() {
    String[] texts = {
        MOST + "sure not(us+them*2-far<told)and day or 1" + "+1".repeat(20) + ";draw 999;",
        "room a;room b;room c;thing t in c;thing u in b;sure 7;",
        "room x;room y creaks 2;door y x;thing t in x was y;draw 7;",
        "room e;room f;thing t in e ours;thing u in f ours;sure not not 1;",
        "",
        MOST + "sure us+1;draw 5",
        "room q creaks 3;room r;room s;door q s;door r s;thing a in s;sure ((1+2)*3);draw 12;;",
        "room z;sure 1" + "+1".repeat(30) + ";"};
    for (int i = 0; i < texts.length * texts.length * texts.length; i++) {
      int[] turn = {i / texts.length / texts.length, i / texts.length % texts.length, i % texts.length};
      String call = "HOUSES " + turn[0] + ", " + turn[1] + ", " + turn[2];
      SoldHouse x = new SoldHouse();
      for (int t = 0; t < 2; t++) {
        load(x, texts[turn[t]]);
        x.day();
        x.hear(1);
        x.way(0, 1);
        x.heard(1, 3, true);
        x.image(1);
      }
      if (turn[2] >= FINE) continue;
      c.due(call + ": it is told", load(x, texts[turn[2]]) >= 0, true);
      SoldHouse fresh = new SoldHouse();
      load(fresh, texts[turn[2]]);
      c.same(call, Twins.all(x, true, true), Twins.all(fresh, true, true));
    }
  }

  private static int load(SoldHouse x, String text) {
    x.end(0);
    Checks.put(x, text);
    return x.house();
  }

  private static void theFault() {
    c.promise(5, "Of the latest house() what 0: its FAULT (0), 1: its place (NONE)");
    SoldHouse x = new SoldHouse();
    c.due("fault(0) at first", x.fault(0), 0);
    c.due("fault(1) at first", x.fault(1), -1);
    String[] texts = {"$", "room", "room a;room a;", "draw 1000;", "door a b;"};
    int[] places = {0, 4, 12, 5, 5};
    for (int i = 0; i < 5; i++) {
      x.end(0);
      Checks.put(x, texts[i]);
      if (i > 0) c.due("fault(0) ahead of house()", x.fault(0), i);
      x.house();
      c.due("fault(0) of " + texts[i], x.fault(0), i + 1);
      c.due("fault(1) of " + texts[i], x.fault(1), places[i]);
    }
    x.feed(0, 0, 0, 0, 0);
    x.end(0);
    x.day();
    x.undo();
    x.way(0, 0);
    c.due("fault(0) behind other calls", x.fault(0), 5);
    c.due("fault(1) behind other calls", x.fault(1), 5);
    c.due("house() of nothing", x.house(), 0);
    c.due("fault(0) of none", x.fault(0), 0);
    c.due("fault(1) of none", x.fault(1), -1);
    twins.still("fault(0)", 3, y -> y.fault(0));
    twins.still("fault(1)", 21, y -> y.fault(1));
    c.promise(5, "NONE for another what");
    for (int what : NEVER) twins.still("fault(" + what + ")", -1, y -> y.fault(what));
    for (int what : new int[] {2, 3, 256}) twins.still("fault(" + what + ")", -1, y -> y.fault(what));
  }

  private static void theLength() {
    c.term("A HOUSE is a text of at most 1,600 bytes (empty at first): house = {line}.");
    c.due("house() at first", new SoldHouse().house(), 0);
    good(" ".repeat(1593) + "room a;", 1);
    good("room a;" + "\n".repeat(1593), 1);
    good(" ".repeat(1600), 0);
    good(" ", 0);
    good("\n", 0);
    for (String last : new String[] {"room", "room abcdefgh", "draw 9", "draw 999", "sure 1+", "sure (", "room a creaks", "thing t", "draw 1 "}) {
      fault(" ".repeat(1600 - last.length()) + last, 2, 1600);
    }
    for (String last : new String[] {"abcdefghi", "00000", "9x", "$", "\u00ff"}) fault(" ".repeat(1600 - last.length()) + last, 1, 1600 - last.length());
    SoldHouse x = new SoldHouse();
    Checks.put(x, " ".repeat(1600));
    c.due("byte 1601", x.feed(0x20202020, 0x20202020, 0x20202020, 0x20202020, 0x20202020), -1);
    // the longest that can be told: names of 8, blanks about every TOKEN
    StringBuilder text = new StringBuilder();
    for (char r = 'a'; r <= 'h'; r++) text.append("room ").append(("" + r).repeat(8)).append(" creaks 0009 ;");
    for (char t = 'a'; t <= 'f'; t++) {
      text.append("thing ").append(("" + t).repeat(8)).append(" in hhhhhhhh was aaaaaaaa ours us 0050 them 0050 ;");
    }
    text.append("draw 0999;");
    text.append(" ".repeat(1600 - text.length()));
    c.due("six THINGS of the longest text", good(text.toString(), 8).about(2), 6);
  }

  /** Each beginning of a line that is no line is a FAULT at the text's length. */
  private static void beginnings(String line, String ahead) {
    String[] tokens = line.split(" ");
    StringBuilder text = new StringBuilder(ahead);
    for (int i = 0; i + 1 < tokens.length; i++) {
      text.append(tokens[i]);
      fault(text.toString(), 2, text.length());
      text.append(i % 2 == 0 ? " " : "\n ");
      fault(text.toString(), 2, text.length());
    }
    text.append(tokens[tokens.length - 1]);
    SoldHouse x = new SoldHouse();
    Checks.put(x, text.toString());
    c.due("house() of [" + text + "]", x.house() >= 0, true);
  }

  /** Another TOKEN in the place of each one: it can't stand there, but where a NAME, a number or what follows can. */
  private static void theOtherTokens(String line, String ahead) {
    String[] tokens = line.split(" ");
    StringBuilder text = new StringBuilder(ahead);
    for (int i = 0; i < tokens.length; i++) {
      boolean name = tokens[i].length() == 1 && Character.isLetter(tokens[i].charAt(0));
      boolean number = Character.isDigit(tokens[i].charAt(0));
      for (String other : SORTS) {
        boolean fits = name && other.equals("name") || number && other.equals("7") || other.equals(tokens[i]);
        boolean line0 = i == 0 && List.of("room", "door", "thing", "sure", "draw").contains(other);
        boolean option = i >= 4 && !name && !number && OPTIONS.indexOf(other) >= 0;
        boolean creaks = tokens[0].equals("room") && i == 2 && (other.equals("creaks") || other.equals(";"));
        if (!fits && !line0 && !option && !creaks) fault(text + other + " ;", 2, text.length());
      }
      text.append(tokens[i]).append(' ');
    }
  }

  private static void theLines() {
    c.term("line = room NAME [creaks N] ;  |  door NAME NAME ;  |  thing NAME in NAME [was NAME] [ours] [us N] [them N] ;  |  sure e ;  |  draw N ;.");
    beginnings("room a ;", "");
    beginnings("room a creaks 3 ;", "");
    beginnings("door a b ;", "room a;room b;");
    beginnings("thing t in a ;", "room a;");
    beginnings("thing t in a was b ours us 1 them 2 ;", "room a;room b;");
    beginnings("sure 1 ;", "");
    beginnings("sure not ( us + 2 * them < far ) and told or day ;", "");
    beginnings("draw 1 ;", "");
    theOtherTokens("room a ;", "");
    theOtherTokens("room a creaks 3 ;", "");
    theOtherTokens("door a b ;", "room a;room b;");
    theOtherTokens("thing t in a ;", "room a;room b;");
    theOtherTokens("thing t in a was b ours us 1 them 2 ;", "room a;room b;");
    theOtherTokens("draw 1 ;", "");
    // what may be left out, in all ways
    for (int set = 0; set < 16; set++) {
      String line = "thing t in a" + ((set & 1) > 0 ? " was b" : "") + ((set & 2) > 0 ? " ours" : "")
          + ((set & 4) > 0 ? " us 11" : "") + ((set & 8) > 0 ? " them 22" : "");
      SoldHouse x = good("room a;room b;" + line + ";", 2);
      c.due(line + " in", x.thing(0, 0), 0);
      c.due(line + " was", x.thing(0, 1), (set & 1) > 0 ? 1 : 0);
      c.due(line + " ours", x.thing(0, 2), (set & 2) > 0 ? 1 : 0);
      c.due(line + " us", x.thing(0, 3), (set & 4) > 0 ? 11 : 0);
      c.due(line + " them", x.thing(0, 4), (set & 8) > 0 ? 22 : 0);
    }
    // each of these but the last once, and in this order alone
    String[] options = {"was b", "ours", "us 11", "them 22"};
    String ahead = "room a;room b;thing t in a ";
    for (int i = 0; i < 4; i++) {
      for (int j = 0; j <= i; j++) fault(ahead + options[i] + " " + options[j] + ";", 2, ahead.length() + options[i].length() + 1);
    }
    fault("room a creaks 1 creaks 1;", 2, 16);
    fault("room a;in a;", 2, 7);
    fault("room a;;", 2, 7);
    fault("room a room b;", 2, 7);
    fault("5;", 2, 0);
    // lines of all sorts in any order, as long as ROOMS are told ahead
    good("draw 5;sure 1;room a;thing t in a;room b;door a b;thing u in b;", 2);
  }

  private static void theTokens() {
    c.term("TOKENS: words (a .. z, 8 at most), N (1 to 4 digits), signs ; ( ) < > = + - * / %; blanks (32, 10) part them or not");
    for (int b = 0; b < 256; b++) {
      char sign = (char) b;
      boolean blank = b == 32 || b == 10;
      boolean token = sign >= 'a' && sign <= 'z' || sign >= '0' && sign <= '9' || ";()<>=+-*/%".indexOf(sign) >= 0;
      if (blank) {
        good("" + sign + "room" + sign + "a" + sign + ";" + sign, 1);
      } else {
        fault("" + sign, token ? 2 : 1, 0);
        fault("room a;" + sign, token ? 2 : 1, 7);
        if (!token) fault("room" + sign + "a;", 1, 4);
        if (!token) fault("room a" + sign + ";", 1, 6);
      }
    }
    good("room a;", 1);
    good("room z;", 1);
    good("room abcdefgh;", 1);
    good("room zzzzzzzz;", 1);
    fault("room abcdefghi;", 1, 5);
    fault("room zzzzzzzzz;", 1, 5);
    fault("room " + "a".repeat(100) + ";", 1, 5);
    c.due("N of 1 digit", good("draw 7;", 0).about(4), 7);
    c.due("N of 4 digits", good("draw 0007;", 0).about(4), 7);
    fault("draw 00007;", 1, 5);
    fault("draw " + "0".repeat(40) + "7;", 1, 5);
    fault("draw 4294967296;", 1, 5);
    c.term("each is as long as can be");
    fault("rooma;", 2, 0);
    fault("room acreaks 1;", 2, 13);
    good("room a creaks1;", 1);
    c.due("no blanks at all", good("room a creaks 1;room b;door a b;thing t in b was a us 5;sure(us+1)*2<(them)or(day);draw 7;", 2).about(4), 7);
    c.due("12, not 1 and 2", good("draw 12;", 0).about(4), 12);
    fault("draw 1 2;", 2, 7);
    fault("draw 1\n2;", 2, 7);
    fault("ro om a;", 2, 0);
    c.term("no letter directly behind an N");
    good("sure 1 or 2;", 0);
    good("sure 1\nor 2;", 0);
    good("sure (1)or 2;", 0);
    good("sure us or 2;", 0);
    fault("sure 1or 2;", 1, 5);
    fault("sure 1234z;", 1, 5);
    fault("room a creaks 9a;", 1, 14);
    fault("room a creaks 9z;", 1, 14);
    fault("9a", 1, 0);
    fault("room a creaks 9", 2, 15);
    fault("room a creaks 9$", 1, 15);
  }

  private static void theNames() {
    c.term("Words that stand for themselves here are no NAMES");
    for (String word : OWN) {
      fault("room " + word + ";", 2, 5);
      fault("room a;thing " + word + " in a;", 2, 13);
      fault("room a;door " + word + " a;", 2, 12);
      fault("room a;door a " + word + ";", 2, 14);
      fault("room a;thing t in " + word + ";", 2, 18);
      fault("room a;thing t in a was " + word + ";", 2, 24);
      // one letter more or less is a NAME
      good("room " + word + "x;", 1);
      good("room x" + word + ";", 1);
      String shorter = word.substring(1);
      if (!List.of(OWN).contains(shorter)) good("room " + shorter + ";thing " + shorter + " in " + shorter + ";", 1);
      String cut = word.substring(0, word.length() - 1);
      if (!List.of(OWN).contains(cut)) good("room " + cut + ";", 1);
    }
  }

  private static String rooms(int n, String more) {
    StringBuilder t = new StringBuilder();
    for (int i = 0; i < n; i++) t.append("room ").append((char) ('a' + i)).append(more).append(';');
    return t.toString();
  }

  private static void theRooms() {
    c.term("At most 8 ROOMS (creaks 0 .. 9, 0 if not told)");
    SoldHouse x = good(rooms(8, " creaks 9"), 8);
    c.due("the eighth", x.room(7, 0), 9);
    c.due("a ninth", x.room(8, 0), -1);
    String eight = rooms(8, "");
    fault(eight + "room i;", 2, eight.length());
    fault(eight + " room", 2, eight.length() + 1);
    fault(eight + "room $", 2, eight.length());
    good(eight + "draw 1;", 8);
    for (int n = 0; n <= 9; n++) c.due("creaks " + n, good("room a creaks " + n + ";", 1).room(0, 0), n);
    c.due("creaks not told", good("room a;", 1).room(0, 0), 0);
    for (int n : new int[] {10, 11, 90, 99, 100, 999, 1000, 9999}) fault("room a creaks " + n + ";", 4, 14);
    fault("room a creaks -1;", 2, 14);
  }

  private static String doors(int n) {
    StringBuilder t = new StringBuilder(rooms(8, ""));
    for (int i = 0; i < n; i++) t.append("door ").append(DOORS[i]).append(';');
    return t.toString();
  }

  private static void theDoors() {
    c.term("12 DOORS (of two unlike ROOMS told ahead, each two once in whichever order)");
    for (int n = 0; n <= 12; n++) {
      SoldHouse x = good(doors(n), 8);
      c.due(n + " DOORS", x.about(1), n);
      c.due("the last of " + n, x.door(n - 1, 0), n == 0 ? -1 : DOORS[n - 1].charAt(0) - 'a');
      c.due("one more than " + n, x.door(n, 0), -1);
    }
    fault(doors(12) + "door c d;", 2, doors(12).length());
    fault(doors(12) + "door a b;", 2, doors(12).length());
    fault(doors(12) + "door x y;", 2, doors(12).length());
    good(doors(11) + "door h g;", 8);
    fault("room a;door a a;", 3, 14);
    fault("room a;door a b;room b;", 5, 14);
    fault("room b;door a b;room a;", 5, 12);
    fault("room a;room b;door a b;door a b;", 3, 30);
    fault("room a;room b;door a b;door b a;", 3, 30);
    fault("room a;room b;door b a;door a b;", 3, 30);
    good("room a;room b;room c;door a b;door c b;door c a;", 3);
  }

  private static String things(int n, String more) {
    StringBuilder t = new StringBuilder("room a;room b;");
    for (int i = 0; i < n; i++) t.append("thing ").append((char) ('p' + i)).append(" in a").append(more).append(';');
    return t.toString();
  }

  private static void theThings() {
    c.term("6 THINGS (in a ROOM, was in a ROOM, both told ahead; the one it is in, if that is not told; us, them 0 .. 50, 0 if not told)");
    for (int n = 0; n <= 6; n++) {
      SoldHouse x = good(things(n, " was b us 50 them 49"), 2);
      c.due(n + " THINGS", x.about(2), n);
      c.due("the last of " + n, x.thing(n - 1, 4), n == 0 ? -2 : 49);
      c.due("one more than " + n, x.thing(n, 4), -2);
    }
    String six = things(6, "");
    fault(six + "thing z in a;", 2, six.length());
    fault(six + "thing p in a;", 2, six.length());
    fault(six + "thing in in in;", 2, six.length());
    fault("thing t in a;room a;", 5, 11);
    fault("room a;thing t in b;room b;", 5, 18);
    fault("room a;thing t in a was b;room b;", 5, 24);
    fault("room a;thing t in t;", 5, 18);
    SoldHouse x = good("room a;room b;thing t in b;thing u in b was a;thing v in a was a;", 2);
    c.due("in, if was is not told", x.thing(0, 1), 1);
    c.due("was, if it is told", x.thing(1, 1), 0);
    c.due("was as in", x.thing(2, 1), 0);
    for (int n = 0; n <= 50; n++) {
      x = good("room a;thing t in a us " + n + " them " + (50 - n) + ";", 1);
      c.due("us " + n, x.thing(0, 3), n);
      c.due("them " + (50 - n), x.thing(0, 4), 50 - n);
    }
    for (int n : new int[] {51, 52, 99, 100, 500, 9999}) {
      fault("room a;thing t in a us " + n + ";", 4, 23);
      fault("room a;thing t in a them " + n + ";", 4, 25);
      fault("room a;thing t in a us 50 them " + n + ";", 4, 31);
    }
    x = good("room a;thing t in a;", 1);
    c.due("us not told", x.thing(0, 3), 0);
    c.due("them not told", x.thing(0, 4), 0);
  }

  private static void theRest() {
    c.term("numbered as told, each sort by itself");
    SoldHouse x = good("room z creaks 1;thing b in z us 1;room y creaks 2;door y z;thing a in y us 2;room x creaks 3;door x y;", 3);
    for (int i = 0; i < 3; i++) c.due("ROOM " + i, x.room(i, 0), i + 1);
    for (int i = 0; i < 2; i++) c.due("THING " + i, x.thing(i, 3), i + 1);
    for (int i = 0; i < 2; i++) c.due("DOOR " + i, x.door(i, 0), i + 1);
    for (int i = 0; i < 2; i++) c.due("DOOR " + i, x.door(i, 1), i);
    c.term("sure, draw (0 .. 999; 0) once each");
    for (int n : new int[] {0, 1, 998, 999}) c.due("draw " + n, good("draw " + n + ";", 0).about(4), n);
    for (int n : new int[] {1000, 1001, 9999}) fault("draw " + n + ";", 4, 5);
    c.due("draw not told", good("room a;", 1).about(4), 0);
    fault("draw 0;draw 0;", 2, 7);
    fault("draw 5;room a;draw;", 2, 14);
    fault("draw 5;draw $;", 2, 7);
    fault("sure 1;sure 1;", 2, 7);
    fault("sure 0;room a;sure;", 2, 14);
    good("sure 0;draw 0;", 0);
    good("draw 0;sure 0;", 0);
  }

  /** A sure of so many units, none of them ( e ). */
  private static String flat(int units) {
    return "sure 1" + "+1".repeat(units - 1);
  }

  private static void theUnits() {
    c.term("60 units in all, 30 in one e");
    for (int n : new int[] {1, 2, 29, 30}) c.due(n + " units", good(flat(n) + ";", 0).about(10), n);
    for (int n : new int[] {31, 32, 60, 61, 62}) fault(flat(n) + ";", 2, 5 + 60);
    c.due("no units", good("draw 1;", 0).about(10), 0);
    // of each sort, and by each sign
    good("sure us+them-far*told/day%(1<2)" + " or 1".repeat(22) + ";", 0);
    fault("sure us+them-far*told/day%(1<2)" + " or 1".repeat(23) + ";", 2, 5 + 26 + 22 * 5 + 4);
    for (String sign : new String[] {" or ", " and ", "+", "-", "*", "/", "%"}) {
      c.due("30 by" + sign, good("sure 7" + (sign + "7").repeat(29) + ";", 0).about(10), 30);
      fault("sure 7" + (sign + "7").repeat(30) + ";", 2, 6 + 29 * (sign.length() + 1) + sign.length());
    }
    good(flat(29) + "<1;", 0);
    fault(flat(30) + "<1;", 2, 5 + 60);
    // ( e ) is a unit, and its units are in the e around it, too
    c.due("( e ) and 29", good("sure (1" + "+1".repeat(28) + ");", 0).about(10), 30);
    fault("sure (1" + "+1".repeat(29) + ");", 2, 5 + 1 + 58);
    good(flat(28) + "+(1);", 0);
    fault(flat(29) + "+(1);", 2, 5 + 58 + 1);
    fault(flat(30) + "+(1);", 2, 5 + 60);
    fault(flat(30) + "+;", 2, 5 + 60);
    fault(flat(30) + "+$;", 1, 5 + 60);
    fault(flat(30) + "+", 2, 5 + 60);
    // a sure that was refused leaves the units of the one that is
    SoldHouse x = holding(flat(31) + ";");
    c.due("house()", x.house(), -1);
    c.due("units as they were", x.about(10), 5);
  }

  private static void theDepth() {
    c.term("(a unit ( e ), or a one behind not, within 6 others at most)");
    for (int mask = 0; mask < 128; mask++) {
      StringBuilder open = new StringBuilder();
      StringBuilder shut = new StringBuilder();
      for (int i = 0; i < 7; i++) {
        boolean not = (mask >> i & 1) == 1;
        open.append(not ? "not " : "(");
        if (!not) shut.append(")");
      }
      good("sure " + open + "1" + shut + ";", 0);
      fault("sure " + open + "(1)" + shut + ";", 2, 5 + open.length());
      fault("sure " + open + "not 1" + shut + ";", 2, 5 + open.length());
      fault("sure " + open + "$", 1, 5 + open.length());
    }
    // beside one another they do not add up
    good("sure " + "(".repeat(7) + "1" + ")".repeat(7) + "+" + "(".repeat(7) + "1" + ")".repeat(7) + ";", 0);
    good("sure " + "not ".repeat(7) + "1 and " + "not ".repeat(7) + "1 or " + "not ".repeat(7) + "1;", 0);
    good("sure " + "(".repeat(6) + "(1)+(2)*(3)" + ")".repeat(6) + ";", 0);
    fault("sure " + "(".repeat(6) + "(1)+((3))" + ")".repeat(6) + ";", 2, 5 + 6 + 5);
    fault("sure " + "not ".repeat(7) + "1 and " + "not ".repeat(8) + "1;", 2, 5 + 28 + 6 + 28);
  }

  private static void theFaults() {
    c.term("FAULTS, the first by its place (bytes from 0; the end: the text's length), at one place the least");
    fault("$room", 1, 0);
    fault("draw 1000;$", 4, 5);
    fault("door a b;room a;room a;", 5, 5);
    fault("room a;room a;door x y;draw 1000;;$", 3, 12);
    fault("room a creaks 10 creaks;", 4, 14);
    fault("room a", 2, 6);
    fault("room a   ", 2, 9);
    fault("room a\n", 2, 7);
    fault("draw 10000;", 1, 5);
    fault("room a creaks 10x;", 1, 14);
    fault("room a;room abcdefghi;", 1, 12);
    c.term("1 no TOKEN; 2 one that can't stand there (one of a sort too many or a second time: at the line's first word; a unit too many, what is within 7 others: at its first TOKEN, or the not)");
    String eight = rooms(8, "");
    fault(eight + "\n room b;", 2, eight.length() + 2);
    fault(doors(12) + "\n door d c;", 2, doors(12).length() + 2);
    fault(things(6, "") + "\n thing z in b;", 2, things(6, "").length() + 2);
    fault("sure 1;\n sure 2;", 2, 9);
    fault("draw 1;\n draw 2;", 2, 9);
    fault(flat(30) + "+ (2);", 2, 5 + 61);
    fault("sure " + "(".repeat(7) + " (1", 2, 5 + 8);
    fault("sure " + "(".repeat(7) + " not 1", 2, 5 + 8);
    c.term("3 a NAME told already (of its sort), two ROOMS of a DOOR that are one, or told already (at the second NAME)");
    fault("room a;room b;room a;", 3, 19);
    fault("room a;room a", 3, 12);
    fault("room a;thing t in a;thing u in a;thing t in a;", 3, 39);
    good("room a;thing a in a;", 1);
    good("room a;thing b in a;room b;door a b;", 2);
    good("room abcdefgh;room abcdefgg;room bcdefgh;thing abcdefgh in bcdefgh;", 3);
    fault("room a;room b;door a  a;", 3, 22);
    fault("room a;room b;door b a;door b  a;", 3, 31);
    fault("room a;room b;door b a;door a  b;", 3, 31);
    c.term("4 a number that can't be; 5 a NAME that no ROOM has");
    fault("room a creaks 10", 4, 14);
    fault("draw 1000", 4, 5);
    fault("room a;thing t in a us 51", 4, 23);
    fault("room a;thing t in a them 51", 4, 25);
    good("sure 9999;", 0);
    fault("room a;door b a;", 5, 12);
    fault("room a;door a b;", 5, 14);
    fault("room a;door b b;", 5, 12);
    fault("room a;thing t in b;", 5, 18);
    fault("room a;thing b in a;thing t in b;", 5, 31);
    fault("room a;thing t in a was b;", 5, 24);
    fault("room abcdefgh;door abcdefgi abcdefgh;", 5, 19);
  }

  private static void value(String e, int due) {
    SoldHouse x = Checks.of("room a;room b;thing t in a us 7 them 11;sure " + e + ";");
    c.due("SURE by " + e, x.thing(0, 7), due);
  }

  private static void theFormula() {
    c.term("e = both {or both}.  both = one {and one}.  one = not one | sum [(< | > | =) sum].  sum = term {(+ | -) term}.  term = unit {(* | / | %) unit}.  unit = N | us | them | far | told | day | ( e ).");
    value("1 or 0 and 0", 1);
    value("(1 or 0) and 0", 0);
    value("not 0 and 0", 0);
    value("not (0 and 0)", 1);
    value("not 3 < 2", 1);
    value("(not 3) < 2", 1);
    value("not 3 = 0", 1);
    value("(not 3) = 0", 1);
    value("not 0 > 5", 1);
    value("(not 0) > 5", 0);
    value("2+3*4", 14);
    value("20-3-4", 13);
    value("20-(3-4)", 21);
    value("90/3/3", 10);
    value("90/(3/3)", 90);
    value("7%4*5", 15);
    value("7*4%5", 3);
    value("us+them", 18);
    value("us*them", 77);
    value("told+day+far", 0);
    value("0+0 < 1*1 or 0", 1);
    for (String two : new String[] {"<", ">", "="}) {
      for (String one : new String[] {"<", ">", "="}) fault("sure 1" + one + "2" + two + "3;", 2, 8);
      fault("sure " + two + "1;", 2, 5);
      fault("sure 1" + two + ";", 2, 7);
      fault("sure 1" + two + "not 1;", 2, 7);
    }
    for (String sign : new String[] {"+", "-", "*", "/", "%"}) {
      fault("sure " + sign + "1;", 2, 5);
      fault("sure 1" + sign + ";", 2, 7);
      fault("sure 1" + sign + "not 1;", 2, 7);
      fault("sure 1" + sign + sign + "1;", 2, 7);
    }
    for (String half : new String[] {"1 or", "1 and", "not", "1<", "1>", "1=", "1+", "1-", "1*", "1/", "1%", "not not", "1 or not", "1 and 2 or"}) {
      fault("sure " + half + ";", 2, 5 + half.length());
      fault("sure (" + half + ");", 2, 6 + half.length());
      fault("sure (" + half + "$);", 1, 6 + half.length());
      fault("sure (" + half, 2, 6 + half.length());
      good("sure (" + half + " 1);", 0);
    }
    fault("sure or 1;", 2, 5);
    fault("sure and 1;", 2, 5);
    fault("sure 1 or or 1;", 2, 10);
    fault("sure 1 not 1;", 2, 7);
    fault("sure ();", 2, 6);
    fault("sure (1;", 2, 7);
    fault("sure (1));", 2, 8);
    fault("sure 1 (2);", 2, 7);
    List<String> others = new ArrayList<>(List.of(OWN));
    others.removeAll(List.of("us", "them", "far", "told", "day", "not"));
    for (String word : others) fault("sure " + word + ";", 2, 5);
    fault("sure name;", 2, 5);
  }
}
