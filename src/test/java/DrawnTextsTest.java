/** Promises 4 and 5: drawn texts, whole and broken, against the Model, and what a new HOUSE is like. */
public final class DrawnTextsTest {
  private static final Checks c = new Checks("DrawnTextsTest");

  public static void main(String[] args) {
    for (int seed = 0; seed < 8000; seed++) {
      Drawn drawn = new Drawn(seed);
      text(drawn.broken(drawn.oneOf(8) ? drawn.tooMany() : drawn.house(8), drawn.upTo(3)));
    }
    c.finish();
  }

  private static void text(String text) {
    SoldHouse x = new SoldHouse();
    Model m = new Model();
    Checks.put(x, text);
    m.tape.append(text);
    String call = "[" + text + "] ";
    c.due(call + "house()", x.house(), m.house());
    c.due(call + "fault(0)", x.fault(0), m.fault(0));
    c.due(call + "fault(1)", x.fault(1), m.fault(1));
    for (int what = 0; what < 12; what++) c.due(call + "about(" + what + ")", x.about(what), m.about(what));
    for (int i = 0; i < 8; i++) {
      for (int what = 0; what < 4; what++) c.due(call + "room(" + i + ", " + what + ")", x.room(i, what), m.room(i, what));
    }
    for (int i = 0; i < 12; i++) {
      for (int what = 0; what < 4; what++) c.due(call + "door(" + i + ", " + what + ")", x.door(i, what), m.door(i, what));
    }
    for (int i = 0; i < 6; i++) {
      for (int what = 0; what < 8; what++) c.due(call + "thing(" + i + ", " + what + ")", x.thing(i, what), m.thing(i, what));
    }
  }
}
