/** Promises 7, 10 to 16 and 49 to 51: ACTS, UNDO and REDO, images. */
public final class ActsTest {
  private static final Checks c = new Checks("ActsTest");

  private static final String THREE = "room a;room b;room c;room d;door a b;door c b;"
      + "thing x in a was b ours us 3 them 9;thing y in c us 1;thing z in d was a them 4;";

  public static void main(String[] args) {
    telling();
    carrying();
    sending();
    days();
    undoing();
    boxes();
    c.finish();
  }

  private static void thing(String when, SoldHouse x, int thing, int... due) {
    for (int what = 0; what < due.length; what++) {
      c.due(when + ": thing(" + thing + ", " + what + ")", x.thing(thing, what), due[what]);
    }
  }

  private static void telling() {
    SoldHouse x = Checks.of(THREE);
    thing("at first", x, 0, 0, 1, 1, 3, 9, 0, -1, 100);
    thing("at first", x, 1, 2, 2, 0, 1, 0, 0, -1, 100);
    thing("at first", x, 2, 3, 0, 0, 0, 4, 0, -1, 100);
    c.due("tell(0)", x.tell(0), 0);
    thing("told", x, 0, 0, 1, 1, 3, 9, 1, 0);
    c.due("tell(0) again", x.tell(0), 0);
    thing("told again", x, 0, 0, 1, 1, 3, 9, 1, 0);
    c.due("an ACT all the same", x.about(5), 2);
    c.due("hear(0)", x.hear(0), 0);
    thing("heard", x, 0, 0, 0, 1, 3, 9, 2, 1);
    c.due("hear(0) again", x.hear(0), 0);
    thing("heard again", x, 0, 0, 0, 1, 3, 9, 2, 1);
    c.due("tell(0) right", x.tell(0), 1);
    thing("told right", x, 0, 0, 0, 1, 3, 9, 3, 0);
    c.due("tell(1)", x.tell(1), 1);
    c.due("hear first", x.hear(2), 3);
    thing("heard first", x, 2, 3, 3, 0, 0, 4, 1, 1);
    c.due("deep(1)", x.deep(1), 7);
    c.due("deep(2)", x.deep(2), 1);
    c.due("deep(3)", x.deep(3), 1);
    c.due("deep(4)", x.deep(4), 0);
    int acts = x.about(5);
    c.due("tell(3)", x.tell(3), -1);
    c.due("tell(-1)", x.tell(-1), -1);
    c.due("hear(3)", x.hear(3), -1);
    c.due("hear(-1)", x.hear(-1), -1);
    c.due("no ACTS", x.about(5), acts);
    for (int i = 0; i < 110; i++) {
      x.hear(1);
      x.tell(1);
    }
    c.due("99 at most", x.thing(1, 5), 99);
    c.due("deep(99)", x.deep(99), 2);
    c.due("deep(100)", x.deep(100), -1);
    c.due("deep(-1)", x.deep(-1), -1);
    c.due("deep(0)", x.deep(0), 7);
    x.undo();
    c.due("undone at 99", x.thing(1, 5), 99);
    c.due("undone at 99: they", x.thing(1, 6), 1);
  }

  private static void carrying() {
    SoldHouse x = Checks.of(THREE);
    x.tell(0);
    x.hear(0);
    c.due("carry(0, 1)", x.carry(0, 1), -1);
    c.due("carry(0, 0)", x.carry(0, 0), 1);
    thing("carried", x, 0, 1, 0, 1, 3, 9, 0, -1);
    c.due("carry on", x.carry(0, 1), 2);
    c.due("carry back", x.carry(0, 1), 1);
    c.due("carry home", x.carry(0, 0), 0);
    c.due("carry(2, 0)", x.carry(2, 0), -1);
    c.due("carry(3, 0)", x.carry(3, 0), -1);
    c.due("carry(-1, 0)", x.carry(-1, 0), -1);
    c.due("carry(0, 2)", x.carry(0, 2), -1);
    c.due("carry(0, -1)", x.carry(0, -1), -1);
    c.due("six ACTS", x.about(5), 6);
    c.due("we still THINK", x.thing(0, 1), 0);
    c.due("tell behind carry", x.tell(0), 1);
    c.due("one DEEP anew", x.thing(0, 5), 1);
  }

  private static void sending() {
    SoldHouse x = Checks.of(THREE);
    x.tell(0);
    c.due("send(0)", x.send(0), 0);
    c.due("theirs", x.thing(0, 2), 0);
    c.due("as DEEP", x.thing(0, 5), 1);
    c.due("send(0) back", x.send(0), 1);
    c.due("send(1)", x.send(1), 1);
    c.due("OURS", x.thing(1, 2), 1);
    c.due("send(3)", x.send(3), -1);
    c.due("send(-1)", x.send(-1), -1);
    c.due("four ACTS", x.about(5), 4);
  }

  private static void days() {
    // draws by 7: 137 * 7 + 71 = 1030: 30, then 4181: 181 (81), then 24868: 868 (68)
    SoldHouse x = Checks.of("room a;room b;thing x in a;thing y in a;thing z in a was b;sure 68;draw 7;");
    c.due("day()", x.day(), 6);
    c.due("SEED", x.about(4), 868);
    c.due("the day", x.about(3), 1);
    c.due("x stays", x.thing(0, 1), 0);
    c.due("y slips", x.thing(1, 1), 1);
    c.due("z slips to the first", x.thing(2, 1), 0);
    x = Checks.of("room a;room b;thing x in a;thing y in a;thing z in a was b;sure 69;draw 7;");
    c.due("day() of 69", x.day(), 2);
    x = Checks.of("room a;thing x in a;sure 0;");
    c.due("one ROOM: day()", x.day(), 1);
    c.due("one ROOM: where", x.thing(0, 1), 0);
    x = Checks.of("room a;room b;thing x in a;");
    for (int i = 0; i < 30; i++) c.due("no sure: day()", x.day(), 0);
    // by far, told and day as they are ahead of each DAY
    x = Checks.of("room a;room b;room c;door a b;thing x in a;sure (far=0)*0+(far=1)*100+(far=9)*50;");
    c.due("far 0", x.thing(0, 7), 0);
    c.due("slips", x.day(), 1);
    c.due("far 1", x.thing(0, 7), 100);
    c.due("stays", x.day(), 0);
    x = Checks.of("room a;room b;thing x in a;sure day*100;");
    c.due("day 0 slips", x.day(), 1);
    c.due("day 1 stays", x.day(), 0);
    c.due("SURE by the day", x.thing(0, 7), 100);
    x.undo();
    x.undo();
    c.due("SURE by day 0", x.thing(0, 7), 0);
    x = Checks.of("room a;room b;room c;thing x in a us 7 them 11;sure us+them*2+far*3+told;");
    c.due("SURE", x.thing(0, 7), 29);
    x.tell(0);
    c.due("SURE told", x.thing(0, 7), 30);
    x = Checks.of("room a;room b;thing x in a was b;sure far;");
    c.due("far without DOORS", x.thing(0, 7), 9);
    x = new SoldHouse();
    for (int i = 1; i <= 500; i++) {
      c.due("empty day()", x.day(), 0);
    }
    c.due("day 500", x.about(3), 500);
    c.due("its ACTS", x.about(5), 40);
    // beyond 512 calls nothing is promised; the last DAY is looked at all the same
    for (int i = 501; i <= 999; i++) x.day();
    c.due("day 999", x.about(3), 999);
    x.undo();
    x.redo();
    x.undo();
    c.due("the last day()", x.day(), 0);
    c.due("day() behind 999", x.day(), -1);
    c.due("it did nothing", x.about(3), 999);
    c.due("nor an ACT", x.about(5), 40);
  }

  private static void undoing() {
    SoldHouse x = Checks.of(THREE + "sure 0;draw 12;");
    c.due("undo() at first", x.undo(), false);
    c.due("redo() at first", x.redo(), false);
    x.tell(0);
    x.hear(1);
    x.carry(0, 0);
    x.send(2);
    c.due("day()", x.day(), 7);
    c.due("five", x.about(5), 5);
    c.due("undo day", x.undo(), true);
    c.due("day again 0", x.about(3), 0);
    c.due("SEED again", x.about(4), 12);
    c.due("y again", x.thing(1, 1), 2);
    c.due("undo send", x.undo(), true);
    c.due("theirs again", x.thing(2, 2), 0);
    c.due("undo carry", x.undo(), true);
    thing("uncarried", x, 0, 0, 1, 1, 3, 9, 1, 0);
    c.due("two", x.about(5), 2);
    c.due("three", x.about(6), 3);
    c.due("redo carry", x.redo(), true);
    thing("carried again", x, 0, 1, 1, 1, 3, 9, 0, -1);
    c.due("a call that does nothing", x.carry(2, 0), -1);
    c.due("redo still", x.about(6), 2);
    c.due("redo send", x.redo(), true);
    c.due("redo day", x.redo(), true);
    c.due("redo no more", x.redo(), false);
    c.due("day 1", x.about(3), 1);
    c.due("slipped again", x.thing(1, 1), 3);
    x.undo();
    x.undo();
    c.due("another ACT", x.tell(2), 0);
    c.due("nothing to redo", x.about(6), 0);
    c.due("redo()", x.redo(), false);
    c.due("four to undo", x.about(5), 4);
    // 40 are kept
    x = Checks.of(THREE);
    for (int i = 0; i < 45; i++) x.send(0);
    c.due("40 kept", x.about(5), 40);
    for (int i = 0; i < 40; i++) c.due("undo " + i, x.undo(), true);
    c.due("undo 41", x.undo(), false);
    c.due("as behind 5", x.thing(0, 2), 0);
    c.due("40 to redo", x.about(6), 40);
    for (int i = 0; i < 40; i++) c.due("redo " + i, x.redo(), true);
    c.due("redo 41", x.redo(), false);
    c.due("as behind 45", x.thing(0, 2), 0);
    for (int i = 0; i < 10; i++) x.undo();
    x.day();
    c.due("31 to undo", x.about(5), 31);
    for (int i = 0; i < 31; i++) c.due("undo of 31", x.undo(), true);
    c.due("undo of 32", x.undo(), false);
    c.due("31 to redo", x.about(6), 31);
    // what is HEARD, lies there and the TIME are no ACTS
    x = Checks.of(THREE);
    x.send(0);
    x.heard(0, 0, true);
    x.later(3);
    x.way(0, 2);
    x.undo();
    c.due("HEARD stays", x.about(7), 1);
    c.due("TIME stays", x.about(8), 3);
    c.due("lies", x.about(11), 3);
  }

  private static void boxes() {
    SoldHouse x = Checks.of(THREE + "sure 0;draw 12;");
    c.due("back(0) of nothing", x.back(0), -1);
    c.due("image(3)", x.image(3), -1);
    c.due("image(-1)", x.image(-1), -1);
    c.due("back(3)", x.back(3), -1);
    c.due("back(-1)", x.back(-1), -1);
    c.due("image(0)", x.image(0), 0);
    x.tell(0);
    x.send(1);
    x.carry(1, 1);
    x.day();
    x.day();
    c.due("image(2)", x.image(2), 2);
    c.due("an image is no ACT", x.about(5), 5);
    int seed = x.about(4);
    int[] thing0 = new int[8];
    int[] thing1 = new int[8];
    for (int what = 0; what < 8; what++) {
      thing0[what] = x.thing(0, what);
      thing1[what] = x.thing(1, what);
    }
    x.undo();
    c.due("back(1)", x.back(1), -1);
    c.due("it does nothing", x.about(5), 4);
    c.due("nor to redo", x.about(6), 1);
    c.due("back(0)", x.back(0), 0);
    c.due("no ACTS to undo", x.about(5), 0);
    c.due("no ACTS to redo", x.about(6), 0);
    c.due("undo()", x.undo(), false);
    c.due("redo()", x.redo(), false);
    thing("back", x, 0, 0, 1, 1, 3, 9, 0, -1, 0);
    thing("back", x, 1, 2, 2, 0, 1, 0, 0, -1, 0);
    c.due("SEED back", x.about(4), 12);
    c.due("back(2)", x.back(2), 2);
    thing("back in 2", x, 0, thing0);
    thing("back in 2", x, 1, thing1);
    c.due("SEED in 2", x.about(4), seed);
    c.due("day in 2", x.about(3), 2);
    c.due("it goes on from there", x.day(), 7);
    c.due("day 3", x.about(3), 3);
    c.due("undo to the image", x.undo(), true);
    thing("undone to 2", x, 0, thing0);
    c.due("a BOX keeps", x.back(2), 2);
    c.due("another image in 2", x.image(0), 2);
    c.due("back(0) anew", x.back(0), 2);
  }
}
