/** Promises 1 to 5: the TAPE, the HOUSE's text and its FAULTS. */
public final class TextTest {
  private static final Checks c = new Checks("TextTest");

  private static void fault(String text, int fault, int place) {
    SoldHouse x = Checks.of("room z creaks 3;thing y in z;sure 1+2;draw 5;");
    x.tell(0);
    x.heard(1, 1, true);
    x.image(2);
    x.way(0, 0);
    Checks.put(x, text);
    String call = "[" + text + "] ";
    c.due(call + "house()", x.house(), -1);
    c.due(call + "fault(0)", x.fault(0), fault);
    c.due(call + "fault(1)", x.fault(1), place);
    c.due(call + "all stays: bytes", x.about(9), text.length());
    c.due(call + "all stays: ROOMS", x.about(0), 1);
    c.due(call + "all stays: DOORS", x.about(1), 0);
    c.due(call + "all stays: THINGS", x.about(2), 1);
    c.due(call + "all stays: ACTS", x.about(5), 1);
    c.due(call + "all stays: HEARD", x.about(7), 1);
    c.due(call + "all stays: units", x.about(10), 2);
    c.due(call + "all stays: SEED", x.about(4), 5);
    c.due(call + "all stays: creaks", x.room(0, 0), 3);
    c.due(call + "all stays: SURE", x.thing(0, 7), 3);
    c.due(call + "all stays: lies", x.about(11), 1);
    c.due(call + "all stays: BOX", x.back(2), 0);
  }

  private static void good(String text, int rooms) {
    SoldHouse x = new SoldHouse();
    Checks.put(x, text);
    c.due("[" + text + "] house()", x.house(), rooms);
    c.due("[" + text + "] fault(0)", x.fault(0), 0);
    c.due("[" + text + "] fault(1)", x.fault(1), -1);
    c.due("[" + text + "] about(9)", x.about(9), 0);
  }

  private static String times(String part, int n) {
    return part.repeat(n);
  }

  public static void main(String[] args) {
    aNewObject();
    theTape();
    aHouse();
    tokens();
    lines();
    formulas();
    c.finish();
  }

  private static void aNewObject() {
    SoldHouse x = new SoldHouse();
    for (int what = 0; what < 12; what++) c.due("new about(" + what + ")", x.about(what), 0);
    c.due("new about(12)", x.about(12), -1);
    c.due("new about(-1)", x.about(-1), -1);
    c.due("new fault(0)", x.fault(0), 0);
    c.due("new fault(1)", x.fault(1), -1);
    c.due("new fault(2)", x.fault(2), -1);
    c.due("new fault(-1)", x.fault(-1), -1);
    c.due("new undo()", x.undo(), false);
    c.due("new redo()", x.redo(), false);
    c.due("new back(0)", x.back(0), -1);
    c.due("NONE", SoldHouse.NONE, -1);
  }

  private static void theTape() {
    SoldHouse x = new SoldHouse();
    for (int i = 1; i <= 80; i++) c.due("feed " + i, x.feed(0, 0, 0, 0, 0), 20 * i);
    c.due("feed 81", x.feed(0, 0, 0, 0, 0), -1);
    c.due("about(9) behind that", x.about(9), 1600);
    c.due("end(1601)", x.end(1601), -1);
    c.due("end(-1)", x.end(-1), -1);
    c.due("about(9) behind these", x.about(9), 1600);
    c.due("end(1581)", x.end(1581), 1581);
    c.due("feed at 1581", x.feed(0, 0, 0, 0, 0), -1);
    c.due("about(9) at 1581", x.about(9), 1581);
    c.due("end(1580)", x.end(1580), 1580);
    c.due("feed at 1580", x.feed(0, 0, 0, 0, 0), 1600);
    c.due("end(1600)", x.end(1600), 1600);
    c.due("end(0)", x.end(0), 0);
    c.due("end(1)", x.end(1), -1);
    c.due("house() of nothing", x.house(), 0);
    // bytes above 127, and the highest first
    x.feed(0x726f6f6d, 0x20613bff, 0, 0, 0);
    c.due("house()", x.house(), -1);
    c.due("fault(0)", x.fault(0), 1);
    c.due("fault(1)", x.fault(1), 7);
    c.due("end(7)", x.end(7), 7);
    c.due("house() behind end", x.house(), 1);
    c.due("fault(0) behind that", x.fault(0), 0);
    c.due("fault(1) behind that", x.fault(1), -1);
    // a text of 1,600 bytes
    good(times(" ", 1593) + "room a;", 1);
  }

  private static void aHouse() {
    SoldHouse x = Checks.of("room a;room b creaks 4;door a b;thing t in a was b ours us 7 them 8;draw 9;");
    x.later(5);
    x.heard(0, 0, true);
    x.image(0);
    x.day();
    x.tell(0);
    x.undo();
    x.way(0, 1);
    Checks.put(x, "room c;thing u in c;");
    c.due("second house()", x.house(), 1);
    int[] due = {1, 0, 1, 0, 0, 0, 0, 0, 5, 0, 0, 0};
    for (int what = 0; what < 12; what++) c.due("second about(" + what + ")", x.about(what), due[what]);
    c.due("BOXES are empty", x.back(0), -1);
    int[] thing = {0, 0, 0, 0, 0, 0, -1, 100};
    for (int what = 0; what < 8; what++) c.due("second thing(0, " + what + ")", x.thing(0, what), thing[what]);
    c.due("second room(0, 0)", x.room(0, 0), 0);
    c.due("third house()", x.house(), 0);
    c.due("third about(2)", x.about(2), 0);
    // what is told earlier and not told again does not stay
    x = Checks.of("room a creaks 9;thing t in a ours us 50 them 50;sure 1;draw 999;");
    Checks.put(x, "room a;thing t in a;");
    c.due("house()", x.house(), 1);
    c.due("creaks", x.room(0, 0), 0);
    c.due("OURS", x.thing(0, 2), 0);
    c.due("us", x.thing(0, 3), 0);
    c.due("them", x.thing(0, 4), 0);
    c.due("SURE", x.thing(0, 7), 100);
    c.due("SEED", x.about(4), 0);
    // edges: 8 ROOMS, 12 DOORS, 6 THINGS, the numbers at their most
    StringBuilder text = new StringBuilder();
    for (char r = 'a'; r <= 'h'; r++) text.append("room ").append(r).append(" creaks 9;");
    String eight = text.toString();
    String[] doors = {"ab", "ac", "ad", "ae", "af", "ag", "ah", "bc", "bd", "be", "bf", "bg"};
    for (String d : doors) text.append("door ").append(d.charAt(0)).append(' ').append(d.charAt(1)).append(";");
    String twelve = text.toString();
    for (char t = 'a'; t <= 'f'; t++) text.append("thing ").append(t).append(" in h was a ours us 50 them 50;");
    String six = text.toString();
    good(six + "draw 999;sure 9999;", 8);
    fault(eight + "room i;", 2, eight.length());
    fault(eight + "room a;", 2, eight.length());
    fault(twelve + "door g h;", 2, twelve.length());
    fault(twelve + "door a b;", 2, twelve.length());
    fault(six + "thing g in a;", 2, six.length());
    fault(six + "thing a in a;", 2, six.length());
  }

  private static void tokens() {
    good("room abcdefgh;", 1);
    fault("room abcdefghi;", 1, 5);
    fault("roomroomr a;", 1, 0);
    good("room a creaks 0009;", 1);
    fault("room a creaks 00009;", 1, 14);
    fault("room a creaks 9x;", 1, 14);
    fault("room a creaks9x;", 1, 13);
    fault("room a creaks x;", 2, 14);
    fault("room a\t;", 1, 6);
    fault("room A;", 1, 5);
    fault("room a;\r", 1, 7);
    fault("room a,", 1, 6);
    fault("room a;room b$", 1, 13);
    fault("\u00e9", 1, 0);
    fault("\u0000", 1, 0);
    fault("room a;\u0080", 1, 7);
    good("\n room\na\n;\n", 1);
    good("room a;room b;door a b;thing t in a us 5;sure(1)<(2);", 2);
    good("room a;sure 1+2*3/4%5-us*them;", 1);
    // the first by its place, not the least
    fault("door a b;$", 5, 5);
    fault("room a creaks 10$", 4, 14);
    fault("12345", 1, 0);
    fault("1234", 2, 0);
  }

  private static void lines() {
    fault("room", 2, 4);
    fault("room ", 2, 5);
    fault("room a", 2, 6);
    fault("room a \n", 2, 8);
    fault(";", 2, 0);
    fault("a", 2, 0);
    fault("creaks", 2, 0);
    fault("room 1;", 2, 5);
    fault("room a b;", 2, 7);
    fault("room a creaks;", 2, 13);
    fault("room a creaks 10;", 4, 14);
    fault("room a;room a;", 3, 12);
    String[] own = {"room", "creaks", "door", "thing", "in", "was", "ours", "us", "them", "sure", "draw", "or", "and", "not", "far", "told", "day"};
    for (String word : own) {
      fault("room " + word + ";", 2, 5);
      fault("room a;thing " + word + " in a;", 2, 13);
      fault("room a;door a " + word + ";", 2, 14);
    }
    fault("door a b;", 5, 5);
    fault("room a;door a b;", 5, 14);
    fault("room a;door a b;room b;", 5, 14);
    fault("room a;door a a;", 3, 14);
    fault("room a;room b;door a b;door a b;", 3, 30);
    fault("room a;room b;door a b;door b a;", 3, 30);
    fault("room a;room b;door a b", 2, 22);
    fault("room a;room b;door a;", 2, 20);
    fault("room a;room b;door a b a;", 2, 23);
    good("room a;thing a in a;", 1);
    fault("room a;thing t in a;thing t in a;", 3, 26);
    fault("room a;thing t a;", 2, 15);
    fault("room a;thing t in b;", 5, 18);
    fault("room a;thing t in t;", 5, 18);
    fault("room a;thing t in a was b;", 5, 24);
    fault("room a;thing t in a was;", 2, 23);
    fault("room a;thing t in a ours ours;", 2, 25);
    fault("room a;thing t in a us 1 ours;", 2, 25);
    fault("room a;thing t in a them 1 us 1;", 2, 27);
    fault("room a;thing t in a ours was a;", 2, 25);
    fault("room a;thing t in a us 51;", 4, 23);
    fault("room a;thing t in a them 51;", 4, 25);
    fault("room a;thing t in a us;", 2, 22);
    fault("room a;thing t in a us us;", 2, 23);
    good("room a;thing t in a us 50 them 50;", 1);
    good("room a;thing t in a was a ours us 0 them 0;", 1);
    good("draw 0;", 0);
    good("draw 999;", 0);
    fault("draw 1000;", 4, 5);
    fault("draw;", 2, 4);
    fault("draw 1;draw 1;", 2, 7);
    fault("sure 1;sure 1;", 2, 7);
    fault("sure;", 2, 4);
    fault("sure 1", 2, 6);
    SoldHouse x = Checks.of("draw 123;");
    c.due("SEED", x.about(4), 123);
  }

  private static void formulas() {
    good("sure us+them-far*told/day%9999;", 0);
    good("sure not 1<2 and not 3>4 or not(5=6);", 0);
    fault("sure 1<2<3;", 2, 8);
    fault("sure 1+not 2;", 2, 7);
    fault("sure 1<not 2;", 2, 7);
    fault("sure -1;", 2, 5);
    fault("sure a;", 2, 5);
    fault("sure creaks;", 2, 5);
    fault("sure 1 2;", 2, 7);
    fault("sure ();", 2, 6);
    fault("sure (1;", 2, 7);
    fault("sure 1);", 2, 6);
    fault("sure 1 or;", 2, 9);
    fault("sure 1 and or 1;", 2, 11);
    fault("sure 12345;", 1, 5);
    // depth: 7 open at once, whether ( or not
    good("sure " + times("(", 7) + "1" + times(")", 7) + ";", 0);
    fault("sure " + times("(", 8) + "1" + times(")", 8) + ";", 2, 12);
    good("sure " + times("not ", 7) + "1;", 0);
    fault("sure " + times("not ", 8) + "1;", 2, 5 + 28);
    good("sure " + times("not(", 3) + "not 1" + times(")", 3) + ";", 0);
    fault("sure " + times("not(", 3) + "not(1)" + times(")", 3) + ";", 2, 5 + 12 + 3);
    fault("sure " + times("not(", 3) + "(not 1)" + times(")", 3) + ";", 2, 5 + 12 + 1);
    good("sure " + times("(", 7) + "1" + times(")", 7) + "+" + times("(", 7) + "1" + times(")", 7) + ";", 0);
    // units: ( e ) is one, too
    good("sure 1" + times("+1", 29) + ";", 0);
    fault("sure 1" + times("+1", 30) + ";", 2, 5 + 60);
    good("sure (1" + times("+1", 28) + ");", 0);
    fault("sure (1" + times("+1", 29) + ");", 2, 5 + 1 + 58);
    fault("sure 1" + times("+1", 29) + "+(1);", 2, 5 + 60);
    fault("sure 1" + times("+1", 29) + "+;", 2, 5 + 60);
    units("sure 1;", 1);
    units("sure (1);", 2);
    units("sure ((us)+1) or not day;", 5);
    units("sure 1" + times("+1", 29) + ";", 30);
    units("draw 3;", 0);
    value("1+2*3", 7);
    value("(1+2)*3", 9);
    value("20-5-4", 11);
    value("100/7/2", 7);
    value("100%7*3", 6);
    value("100/(3-3)", 0);
    value("50+100%(3-3)", 50);
    value("(0-7)/2+50", 47);
    value("(0-7)%4+50", 47);
    value("5<6", 1);
    value("6<5", 0);
    value("5>6", 0);
    value("6>5", 1);
    value("6=6", 1);
    value("6=5", 0);
    value("5 and 7", 1);
    value("5 and 0", 0);
    value("0 or 7", 1);
    value("0 or 0", 0);
    value("not 5", 0);
    value("not 0", 1);
    value("not not 5", 1);
    value("1 or 0 and 0", 1);
    value("not 0 and 0", 0);
    value("not 1 < 1", 1);
    value("(1<2)*30+(2<1)*7", 30);
    value("0-5", 0);
    value("101", 100);
    value("9999*9999*9999", clamp(9999 * 9999 * 9999));
    value("9999*9999*9999*9999*9999", clamp(9999 * 9999 * 9999 * 9999 * 9999));
    // the least int by -1: wraps, and leaves nothing
    value("(4096*4096*128)/(0-1) < 0", 1);
    value("(4096*4096*128)%(0-1)+9", 9);
  }

  private static int clamp(int v) {
    return Math.max(0, Math.min(100, v));
  }

  private static void units(String text, int units) {
    c.due("[" + text + "] units", Checks.of(text).about(10), units);
  }

  private static void value(String e, int due) {
    c.due("SURE " + e, Checks.of("room a;thing t in a;sure " + e + ";").thing(0, 7), due);
  }
}
