import java.util.ArrayList;
import java.util.List;
import java.util.function.Predicate;
import java.util.function.Supplier;
import java.util.function.ToLongFunction;

/** Calls that must leave all as it is: made on one of two like objects, which are then asked for all that they hold. */
final class Twins {
  private final Checks c;
  private final Supplier<SoldHouse> make;

  Twins(Checks c, Supplier<SoldHouse> make) {
    this.c = c;
    this.make = make;
  }

  /** Of everything something: ACTS to undo and to redo, HEARD, two full BOXES, a way that lies there, a FAULT, bytes. */
  static SoldHouse full() {
    SoldHouse x = Checks.of("room a creaks 1;room b creaks 5;room c creaks 9;room d;door a b;door c b;"
        + "thing x in a was b ours us 3 them 9;thing y in c us 1;thing z in d was a them 4;sure 60-day*5+told*10;draw 12;");
    x.later(10);
    x.heard(0, 5, true);
    x.later(3);
    x.seen(7, 0, false);
    x.untell(0);
    x.later(2);
    x.tell(0);
    x.image(0);
    x.day();
    x.hear(1);
    x.carry(1, 1);
    x.image(2);
    x.send(2);
    x.undo();
    x.undo();
    x.way(0, 2);
    Checks.put(x, "room q creaks 7;room q;");
    x.house();
    return x;
  }

  /** The answer is due, and nothing is done. */
  void still(String call, long due, ToLongFunction<SoldHouse> how) {
    SoldHouse x = make.get();
    c.due(call, how.applyAsLong(x), due);
    c.same(call, all(x, true, true), all(make.get(), true, true));
  }

  void still(String call, boolean due, Predicate<SoldHouse> how) {
    still(call, due ? 1 : 0, x -> how.test(x) ? 1 : 0);
  }

  /** The answer is due, and nothing is done but that other numbers lie there. */
  void onlyLays(String call, long due, ToLongFunction<SoldHouse> how, int... lies) {
    SoldHouse x = make.get();
    c.due(call, how.applyAsLong(x), due);
    c.lie(call, x, lies);
    c.same(call, all(x, false, true), all(make.get(), false, true));
  }

  /** The answer is due, and of all that can be asked this alone is another then, in the order of open(). */
  static void changes(Checks c, SoldHouse x, String call, long due, ToLongFunction<SoldHouse> how, String... changed) {
    List<String> ahead = new ArrayList<>();
    open(x, ahead, true);
    c.due(call, how.applyAsLong(x), due);
    List<String> behind = new ArrayList<>();
    open(x, behind, true);
    behind.removeAll(ahead);
    c.same(call, behind, List.of(changed));
  }

  /** All that can be asked, and at last what lies behind UNDO, REDO, the BOXES and the TAPE. */
  static List<String> all(SoldHouse x, boolean lies, boolean faults) {
    List<String> said = new ArrayList<>();
    open(x, said, lies);
    whole(x, said);
    for (int what = 0; faults && what < 2; what++) say(said, "fault(" + what + ")", x.fault(what));
    int back = 0;
    while (back < 45 && x.undo()) {
      back++;
      memory(x, said, "undo " + back);
    }
    int on = 0;
    while (on < 45 && x.redo()) {
      on++;
      memory(x, said, "redo " + on);
    }
    for (int box = 0; box < 3; box++) {
      say(said, "back(" + box + ")", x.back(box));
      memory(x, said, "BOX " + box);
    }
    say(said, "end(16)", x.end(16));
    say(said, "house()", x.house());
    say(said, "fault(0)", x.fault(0));
    say(said, "room(0, 0)", x.room(0, 0));
    return said;
  }

  /** What can be asked without doing anything. */
  private static void open(SoldHouse x, List<String> said, boolean lies) {
    for (int what = 0; what < (lies ? 12 : 11); what++) say(said, "about(" + what + ")", x.about(what));
    for (int room = 0; room < x.about(0); room++) {
      for (int what = 0; what < 4; what++) say(said, "room(" + room + ", " + what + ")", x.room(room, what));
    }
    for (int door = 0; door < x.about(1); door++) {
      for (int what = 0; what < 4; what++) say(said, "door(" + door + ", " + what + ")", x.door(door, what));
    }
    for (int thing = 0; thing < x.about(2); thing++) {
      for (int what = 0; what < 8; what++) say(said, "thing(" + thing + ", " + what + ")", x.thing(thing, what));
    }
    for (int i = 0; lies && i <= x.about(11); i++) say(said, "lies(" + i + ")", x.lies(i));
    for (int k : new int[] {9, 10, 12, 13, 15, 16}) say(said, "walks(" + k + ")", x.walks(k));
  }

  /** What is asked of all ROOMS, all DOORS and all THINGS together. */
  private static void whole(SoldHouse x, List<String> said) {
    int[] answers = {x.pieces(), x.parts(), x.centre(), x.nooks(), x.mend(3), x.regret(), x.trade(0), x.trade(1), x.trade(2), x.trades(),
        x.wealth(0), x.wealth(1), x.off(), x.right(), x.deep(1), x.lost(), x.certain(0, 12), x.ask(0, 12), x.ask(1, 12)};
    for (int i = 0; i < answers.length; i++) say(said, "of all, " + i + ":", answers[i]);
  }

  private static void memory(SoldHouse x, List<String> said, String when) {
    for (int what = 3; what < 7; what++) say(said, when + ": about(" + what + ")", x.about(what));
    for (int thing = 0; thing < x.about(2); thing++) {
      for (int what : new int[] {0, 1, 2, 5, 6}) say(said, when + ": thing(" + thing + ", " + what + ")", x.thing(thing, what));
    }
  }

  private static void say(List<String> said, String call, int answer) {
    said.add(call + " " + answer);
  }
}
