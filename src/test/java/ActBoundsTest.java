import java.util.ArrayList;
import java.util.List;
import java.util.function.IntFunction;
import java.util.function.ToLongFunction;

/** The bounds of promises 6 to 16 and 49 to 51: THINGS and ACTS, from both sides, and what they leave behind. */
public final class ActBoundsTest {
  private static final Checks c = new Checks("ActBoundsTest");
  private static final Twins twins = new Twins(c, Twins::full);
  private static final int[] NEVER = {-1, -2, -3, -8, Integer.MIN_VALUE, Integer.MAX_VALUE};
  private static final String THREE = "room a;room b;room c;room d;door a b;door c b;"
      + "thing x in a was b ours us 3 them 9;thing y in c us 1;thing z in d was a them 4;";
  private static final String MOST = most();

  public static void main(String[] args) {
    theRoom();
    theThing();
    theDoor();
    theSure();
    theTell();
    theHear();
    theCarry();
    theSend();
    theDay();
    theLastDay();
    theUndo();
    theRedo();
    theImage();
    theBack();
    theAbout();
    c.finish();
  }

  /** As many of each sort as can be: a star about a, then ROOMS next to b; all THINGS in h. */
  private static String most() {
    StringBuilder t = new StringBuilder();
    for (char r = 'a'; r <= 'h'; r++) t.append("room ").append(r).append(" creaks ").append(r - 'a' + 2).append(';');
    for (String d : "a b,a c,a d,a e,a f,a g,a h,b c,b d,b e,b f,b g".split(",")) t.append("door ").append(d).append(';');
    for (char i = 'p'; i <= 'u'; i++) t.append("thing ").append(i).append(" in h was a;");
    return t.toString();
  }

  private static void never(String call, int from, long due, IntFunction<ToLongFunction<SoldHouse>> how) {
    for (int n : NEVER) twins.still(call + " of " + n, due, how.apply(n));
    for (int n : new int[] {from, from + 1, 8, 12, 32, 256 + 1}) {
      if (n >= from) twins.still(call + " of " + n, due, how.apply(n));
    }
  }

  private static void theRoom() {
    c.promise(6, "Of a ROOM what 0: creaks, 1: ROOMS behind its DOORS, 2: THINGS that are there, 3: THINGS that we THINK are there, all as bits");
    SoldHouse x = Checks.of(MOST);
    int[] behind = {254, 125, 3, 3, 3, 3, 3, 1};
    for (int r = 0; r < 8; r++) {
      c.due("room(" + r + ", 0)", x.room(r, 0), r + 2);
      c.due("room(" + r + ", 1)", x.room(r, 1), behind[r]);
      c.due("room(" + r + ", 2)", x.room(r, 2), r == 7 ? 63 : 0);
      c.due("room(" + r + ", 3)", x.room(r, 3), r == 0 ? 63 : 0);
    }
    x.hear(5);
    c.due("room(7, 3) behind hear", x.room(7, 3), 32);
    c.due("room(0, 3) behind hear", x.room(0, 3), 31);
    x.carry(0, 6);
    c.due("room(7, 2) behind carry", x.room(7, 2), 62);
    c.due("room(0, 2) behind carry", x.room(0, 2), 1);
    x = Checks.of("room a;");
    for (int what = 0; what <= 3; what++) c.due("alone room(0, " + what + ")", x.room(0, what), 0);
    twins.still("room(3, 3)", 0, y -> y.room(3, 3));
    c.promise(6, "NONE if there is none such, or for another what");
    never("room", 4, -1, n -> y -> y.room(n, 0));
    never("what", 4, -1, n -> y -> y.room(0, n));
    c.due("room(7, 0) of 8", Checks.of(MOST).room(7, 0), 9);
    c.due("room(8, 0) of 8", Checks.of(MOST).room(8, 0), -1);
    c.due("room(1, 0) of 1", Checks.of("room a;").room(1, 0), -1);
    c.due("room(0, 0) of 0", new SoldHouse().room(0, 0), -1);
  }

  private static void theThing() {
    c.promise(7, "Of a THING what 0: the ROOM it is in, 1: where we THINK it is, 2: 1 if it is OURS, else 0, 3: its worth to us, 4: to them, 5: how DEEP, 6: who spoke of it last (0 we, 1 they, NONE nobody), 7: SURE");
    c.term("A THING is in a ROOM; we THINK it is in a ROOM (where it was, as told, at first); it is OURS or theirs; how DEEP both know of it (0 at first) and who spoke of it last (nobody, at first)");
    SoldHouse x = Checks.of(THREE);
    int[][] due = {{0, 1, 1, 3, 9, 0, -1, 100}, {2, 2, 0, 1, 0, 0, -1, 100}, {3, 0, 0, 0, 4, 0, -1, 100}};
    for (int t = 0; t < 3; t++) {
      for (int what = 0; what < 8; what++) c.due("thing(" + t + ", " + what + ")", x.thing(t, what), due[t][what]);
    }
    x.tell(0);
    c.due("we spoke", x.thing(0, 6), 0);
    x.hear(0);
    c.due("they spoke", x.thing(0, 6), 1);
    c.promise(7, "-2 if there is none such, or for another what");
    never("thing", 3, -2, n -> y -> y.thing(n, 6));
    never("what", 8, -2, n -> y -> y.thing(0, n));
    c.due("thing(5, 6) of 6", Checks.of(MOST).thing(5, 6), -1);
    c.due("thing(6, 6) of 6", Checks.of(MOST).thing(6, 6), -2);
    c.due("thing(0, 6) of 0", Checks.of("room a;").thing(0, 6), -2);
    for (int what = 0; what <= 7; what++) {
      int w = what;
      c.due("what " + what + " can be", Checks.of(THREE).thing(0, w) == -2, false);
    }
    twins.still("thing(2, 7)", 55, y -> y.thing(2, 7));
  }

  private static void theDoor() {
    c.promise(8, "Of a DOOR what 0, 1: its ROOMS, 2: 1 if it PARTS the house, else 0, 3: its NEAR side, as bits");
    SoldHouse x = Checks.of(MOST);
    c.due("door(11, 0)", x.door(11, 0), 1);
    c.due("door(11, 1)", x.door(11, 1), 6);
    c.due("door(11, 2)", x.door(11, 2), 0);
    c.due("door(11, 3)", x.door(11, 3), 255);
    c.due("door(6, 2)", x.door(6, 2), 1);
    c.due("door(6, 3)", x.door(6, 3), 127);
    x = Checks.of("room a;room b;room c;door b a;");
    c.due("told from b: 0", x.door(0, 0), 1);
    c.due("told from b: 1", x.door(0, 1), 0);
    c.due("told from b: 3", x.door(0, 3), 2);
    twins.still("door(1, 3)", 4, y -> y.door(1, 3));
    c.promise(8, "NONE if there is none such, or for another what");
    never("door", 2, -1, n -> y -> y.door(n, 0));
    never("what", 4, -1, n -> y -> y.door(0, n));
    c.due("door(12, 0) of 12", Checks.of(MOST).door(12, 0), -1);
    c.due("door(0, 0) of 0", Checks.of("room a;room b;").door(0, 0), -1);
    c.due("door(0, 0) of 1", x.door(0, 0), 1);
    c.due("door(1, 0) of 1", x.door(1, 0), -1);
  }

  private static void sure(String e, int due) {
    SoldHouse x = Checks.of("room a;room b;thing t in a us 7 them 11;sure " + e + ";");
    c.due("SURE by " + e, x.thing(0, 7), due);
  }

  private static void theSure() {
    c.term("SURE of a memory of a THING: what comes of sure (100, if it is not told) by us, them (what it is worth to us, to them)");
    c.due("SURE if sure is not told", Checks.of("room a;thing t in a;").thing(0, 7), 100);
    sure("us", 7);
    sure("them", 11);
    SoldHouse x = Checks.of("room a;thing t in a us 50 them 49;thing u in a us 1;sure us*2-them;");
    c.due("SURE by worths", x.thing(0, 7), 51);
    c.due("SURE by other worths", x.thing(1, 7), 2);
    x.send(0);
    c.due("sent, it is worth as much", x.thing(0, 7), 51);
    c.term("far (FAR of where it is and where we THINK; 9 if no DOORS lead there), told (how DEEP)");
    StringBuilder line = new StringBuilder();
    for (char r = 'a'; r <= 'h'; r++) line.append("room ").append(r).append(';');
    for (char r = 'a'; r < 'g'; r++) line.append("door ").append(r).append(' ').append((char) (r + 1)).append(';');
    for (char r = 'a'; r <= 'h'; r++) {
      c.due("far to " + r, Checks.of(line + "thing t in a was " + r + ";sure far;").thing(0, 7), r == 'h' ? 9 : r - 'a');
    }
    c.due("far by 7 DOORS", Checks.of(line + "door g h;thing t in a was h;sure far;").thing(0, 7), 7);
    x = Checks.of("room a;room b;door a b;thing t in a;sure told*7+far;");
    for (int i = 0; i < 3; i++) {
      c.due("told " + 2 * i, x.thing(0, 7), 14 * i);
      x.tell(0);
      x.hear(0);
    }
    x.carry(0, 0);
    c.due("told no more, 1 far", x.thing(0, 7), 1);
    // of six THINGS each by its own
    x = Checks.of(MOST.replaceFirst("in h was a", "in h was h us 1 them 1") + "sure told*10+far+us*30+them*40;");
    for (int i = 0; i < 6; i++) {
      c.due("ahead of telling of " + i, x.thing(i, 7), i == 0 ? 70 : 1);
      for (int n = 0; n <= i; n++) {
        if (n % 2 == 0) x.tell(i); else x.hear(i);
      }
      for (int j = 0; j < 6; j++) {
        int far = j == 0 || j >= 1 && j <= i ? 0 : 1;
        if (j == 0) c.due("SURE of 0", x.thing(0, 7), 80);
        else c.due("SURE of " + j, x.thing(j, 7), far + (j <= i ? 10 * (j + 1) : 0));
      }
    }
    c.term("day (0 at first; ints, wrapping; / cut, % its rest, both by 0: 0; relations, and, or, not are 1 or 0, of what is not 0), 0 at least, 100 at most: of 100");
    x = Checks.of("room a;thing t in a;sure day*10;");
    for (int day = 0; day <= 12; day++) {
      c.due("SURE at day " + day, x.thing(0, 7), Math.min(100, day * 10));
      x.day();
    }
    String least = "8192*8192*32";
    sure(least, 0);
    sure(least + "-1", 100);
    sure("(" + least + " < 0)*3+(" + least + "-1 > 0)*4", 7);
    sure("(" + least + "-1+1 = " + least + ")*3", 3);
    sure("(0-" + least + " = " + least + ")*3", 3);
    sure("(" + least + "/(0-1) = " + least + ")*3", 3);
    sure(least + "%(0-1)+5", 5);
    sure("9999*9999*9999", 0);
    sure("9999*9999*9999*9999", 100);
    sure("50+(0-7)/2", 47);
    sure("50+7/(0-2)", 47);
    sure("50+(0-7)%2", 49);
    sure("50+7%(0-2)", 51);
    sure("50+7/0", 50);
    sure("50+7%0", 50);
    sure("50+0/0+0%0", 50);
    sure("(4 < 5)+(5 < 5)*2+(6 < 5)*4", 1);
    sure("(4 > 5)+(5 > 5)*2+(6 > 5)*4", 4);
    sure("(4 = 5)+(5 = 5)*2+(6 = 5)*4", 2);
    sure("(2 and 3)+(0-1 and 5)*2+(0 and 5)*4+(5 and 0)*8", 3);
    sure("(2 or 0)+(0 or 0-1)*2+(0 or 0)*4", 3);
    sure("(not 0)+(not 2)*2+(not (0-1))*4", 1);
    int[][] clamps = {{0, 0}, {1, 1}, {2, 2}, {99, 99}, {100, 100}, {101, 100}, {102, 100}, {9999, 100}};
    for (int[] one : clamps) {
      sure("" + one[0], one[1]);
      sure("0-" + one[0], 0);
    }
  }

  private static void theTell() {
    c.promise(10, "We TELL: 1 if it is FOUND, else 0");
    c.term("ACTS: we TELL of a THING where we THINK it is: it is FOUND if it is there");
    SoldHouse x = Checks.of(THREE);
    Twins.changes(c, x, "tell(0)", 0, y -> y.tell(0), "about(5) 1", "thing(0, 5) 1", "thing(0, 6) 0");
    Twins.changes(c, x, "tell(1)", 1, y -> y.tell(1), "about(5) 2", "thing(1, 5) 1", "thing(1, 6) 0");
    c.term("by each of these it is one DEEPER (99 at most), if the other family (or nobody) spoke of it last, and else as DEEP as it was");
    Twins.changes(c, x, "tell(0) again", 0, y -> y.tell(0), "about(5) 3");
    Twins.changes(c, x, "hear(0)", 0, y -> y.hear(0),
        "about(5) 4", "room(0, 3) 5", "room(1, 3) 0", "thing(0, 1) 0", "thing(0, 5) 2", "thing(0, 6) 1");
    Twins.changes(c, x, "hear(0) again", 0, y -> y.hear(0), "about(5) 5");
    Twins.changes(c, x, "tell(0) at last", 1, y -> y.tell(0), "about(5) 6", "thing(0, 5) 3", "thing(0, 6) 0");
    x = Checks.of(THREE);
    for (int n = 1; n <= 99; n++) {
      if (n % 2 == 1) x.tell(1); else x.hear(1);
      c.due("DEEP behind " + n, x.thing(1, 5), n);
      c.due("deep(" + n + ")", x.deep(n), 2);
    }
    Twins.changes(c, x, "hear(1) at 99", 2, y -> y.hear(1), "thing(1, 6) 1");
    Twins.changes(c, x, "hear(1) at 99 again", 2, y -> y.hear(1));
    Twins.changes(c, x, "tell(1) at 99", 1, y -> y.tell(1), "thing(1, 6) 0");
    Twins.changes(c, x, "carry(1, 1) at 99", 1, y -> y.carry(1, 1),
        "room(1, 2) 2", "room(2, 2) 0", "thing(1, 0) 1", "thing(1, 5) 0", "thing(1, 6) -1");
    Twins.changes(c, x, "tell(1) anew", 0, y -> y.tell(1), "thing(1, 5) 1", "thing(1, 6) 0");
    c.promise(10, "NONE, doing nothing, if there is none such. (An ACT.)");
    never("tell", 3, -1, n -> y -> y.tell(n));
    c.due("tell(5) of 6", Checks.of(MOST).tell(5), 0);
    x = Checks.of(MOST);
    c.due("tell(6) of 6", x.tell(6), -1);
    c.due("no ACT", x.about(5), 0);
    x = Checks.of("room a;");
    c.due("tell(0) of 0", x.tell(0), -1);
    c.due("no ACT of 0", x.about(5), 0);
  }

  private static void theHear() {
    c.promise(11, "They TELL: the ROOM");
    c.term("they TELL us of a THING: we THINK it is where it is");
    SoldHouse x = Checks.of(THREE);
    Twins.changes(c, x, "hear(2)", 3, y -> y.hear(2),
        "about(5) 1", "room(0, 3) 0", "room(3, 3) 4", "thing(2, 1) 3", "thing(2, 5) 1", "thing(2, 6) 1");
    Twins.changes(c, x, "hear(1), known", 2, y -> y.hear(1), "about(5) 2", "thing(1, 5) 1", "thing(1, 6) 1");
    Twins.changes(c, x, "tell(2)", 1, y -> y.tell(2), "about(5) 3", "thing(2, 5) 2", "thing(2, 6) 0");
    x.carry(0, 0);
    x.carry(0, 1);
    c.due("hear(0) where it was carried", x.hear(0), 2);
    c.promise(11, "NONE, doing nothing, if there is none such. (An ACT.)");
    never("hear", 3, -1, n -> y -> y.hear(n));
    x = Checks.of(MOST);
    c.due("hear(5) of 6", x.hear(5), 7);
    c.due("hear(6) of 6", x.hear(6), -1);
    c.due("one ACT", x.about(5), 1);
    c.due("hear(0) of 0", Checks.of("room a;").hear(0), -1);
  }

  private static void theCarry() {
    c.promise(12, "A THING is CARRIED by a DOOR: the ROOM it is in then");
    c.term("a THING is CARRIED by a DOOR into the next ROOM (both know of it no more: DEEP 0, nobody spoke)");
    SoldHouse x = Checks.of(THREE);
    Twins.changes(c, x, "carry(0, 0)", 1, y -> y.carry(0, 0), "about(5) 1", "room(0, 2) 0", "room(1, 2) 1", "thing(0, 0) 1");
    x.tell(0);
    x.hear(0);
    Twins.changes(c, x, "carry(0, 1)", 2, y -> y.carry(0, 1),
        "about(5) 4", "room(1, 2) 0", "room(2, 2) 3", "thing(0, 0) 2", "thing(0, 5) 0", "thing(0, 6) -1");
    Twins.changes(c, x, "carry(0, 1) back", 1, y -> y.carry(0, 1), "about(5) 5", "room(1, 2) 1", "room(2, 2) 2", "thing(0, 0) 1");
    Twins.changes(c, x, "carry(0, 0) back", 0, y -> y.carry(0, 0), "about(5) 6", "room(0, 2) 1", "room(1, 2) 0", "thing(0, 0) 0");
    x.send(0);
    c.due("whoever has it", x.carry(0, 0), 1);
    c.promise(12, "NONE, doing nothing, if it is in none of its ROOMS, or one can't be. (An ACT.)");
    twins.still("carry(0, 1) from a", -1, y -> y.carry(0, 1));
    twins.still("carry(1, 0) from c", -1, y -> y.carry(1, 0));
    twins.still("carry(2, 0) from d", -1, y -> y.carry(2, 0));
    twins.still("carry(2, 1) from d", -1, y -> y.carry(2, 1));
    never("carry of a THING", 3, -1, n -> y -> y.carry(n, 0));
    never("carry by a DOOR", 2, -1, n -> y -> y.carry(0, n));
    x = Checks.of(MOST);
    c.due("carry(5, 11) of 6 and 12, from h", x.carry(5, 11), -1);
    c.due("carry(5, 12)", x.carry(5, 12), -1);
    c.due("carry(6, 6)", x.carry(6, 6), -1);
    c.due("no ACT", x.about(5), 0);
    c.due("carry(5, 6)", x.carry(5, 6), 0);
    c.due("carry(5, 0)", x.carry(5, 0), 1);
    c.due("carry(5, 11) from b", x.carry(5, 11), 6);
    c.due("carry(0, 0) without DOORS", Checks.of("room a;thing t in a;").carry(0, 0), -1);
    c.due("carry(0, 0) without THINGS", Checks.of("room a;room b;door a b;").carry(0, 0), -1);
  }

  private static void theSend() {
    c.promise(13, "A THING is SENT: 1 if it is OURS then, else 0");
    c.term("a THING is SENT: it is the other family's then");
    SoldHouse x = Checks.of(THREE);
    x.tell(0);
    Twins.changes(c, x, "send(0)", 0, y -> y.send(0), "about(5) 2", "thing(0, 2) 0");
    Twins.changes(c, x, "send(0) back", 1, y -> y.send(0), "about(5) 3", "thing(0, 2) 1");
    Twins.changes(c, x, "send(1)", 1, y -> y.send(1), "about(5) 4", "thing(1, 2) 1");
    Twins.changes(c, x, "send(2)", 1, y -> y.send(2), "about(5) 5", "thing(2, 2) 1");
    c.promise(13, "NONE, doing nothing, if there is none such. (An ACT.)");
    never("send", 3, -1, n -> y -> y.send(n));
    x = Checks.of(MOST);
    c.due("send(5) of 6", x.send(5), 1);
    c.due("send(6) of 6", x.send(6), -1);
    c.due("one ACT", x.about(5), 1);
    c.due("send(0) of 0", Checks.of("room a;").send(0), -1);
  }

  private static void theDay() {
    c.promise(14, "A DAY: THINGS whose memory slipped, as bits");
    c.term("a DAY: THING by THING, the SEED (draw, at first) becomes its 137-fold and 71 more, modulo 1,000, and if its rest by 100 is no less than how SURE its memory is");
    for (int draw = 0; draw <= 999; draw++) {
      int seed = (draw * 137 + 71) % 1000;
      int rest = seed % 100;
      SoldHouse x = Checks.of("room a;room b;thing t in a;sure " + rest + ";draw " + draw + ";");
      Twins.changes(c, x, "day() of SURE " + rest + ", draw " + draw, 1, y -> y.day(),
          seed == draw ? new String[] {"about(3) 1", "about(5) 1", "room(0, 3) 0", "room(1, 3) 1", "thing(0, 1) 1"}
              : new String[] {"about(3) 1", "about(4) " + seed, "about(5) 1", "room(0, 3) 0", "room(1, 3) 1", "thing(0, 1) 1"});
      x = Checks.of("room a;room b;thing t in a;sure " + rest + "+1;draw " + draw + ";");
      c.due("day() of SURE " + rest + " and 1, draw " + draw, x.day(), 0);
      c.due("its SEED", x.about(4), seed);
      c.due("we THINK as ahead", x.thing(0, 1), 0);
    }
    for (int things = 0; things <= 6; things++) {
      StringBuilder t = new StringBuilder("room a;room b;");
      for (int i = 0; i < things; i++) t.append("thing ").append((char) ('p' + i)).append(" in a;");
      SoldHouse x = Checks.of(t + "sure 0;draw 999;");
      c.due("day() of all " + things, x.day(), (1 << things) - 1);
      int seed = 999;
      for (int i = 0; i < things; i++) seed = (seed * 137 + 71) % 1000;
      c.due("SEED by " + things, x.about(4), seed);
      x = Checks.of(t + "draw 999;");
      c.due("day() of none of " + things, x.day(), 0);
      c.due("SEED by " + things + " all the same", x.about(4), seed);
    }
    c.term("we THINK it is in the next ROOM by number (the first behind the last one), by what is so ahead of this; the day goes up by 1");
    StringBuilder rooms = new StringBuilder();
    for (int n = 1; n <= 8; n++) {
      rooms.append("room ").append((char) ('a' + n - 1)).append(';');
      for (int was = 0; was < n; was++) {
        SoldHouse x = Checks.of(rooms + "thing t in a was " + (char) ('a' + was) + ";sure 0;");
        c.due("day() of " + n + " ROOMS", x.day(), 1);
        c.due("behind ROOM " + was + " of " + n, x.thing(0, 1), was == n - 1 ? 0 : was + 1);
        c.due("it is where it was", x.thing(0, 0), 0);
        c.due("the day", x.about(3), 1);
      }
    }
    // the day is as ahead of this for the last THING, too: 100 at day 0, 0 at day 1
    SoldHouse x = Checks.of("room a;room b;thing t in a;thing u in a;thing v in a;sure 100-day*100;");
    c.due("day() of day 0", x.day(), 0);
    c.due("day() of day 1", x.day(), 7);
    c.promise(14, "NONE, doing nothing, behind 999 of them. (An ACT.)");
    c.due("a DAY is an ACT", x.about(5), 2);
    x.undo();
    c.due("undone", x.about(3), 1);
    // without THINGS nothing slips, and it is a DAY all the same
    x = new SoldHouse();
    Twins.changes(c, x, "day() of nothing", 0, y -> y.day(), "about(3) 1", "about(5) 1");
  }

  /** Some thousand calls: more than are promised, yet the last DAY can be come to in no other way. */
  private static SoldHouse behindDays(int days) {
    SoldHouse x = Checks.of(THREE + "sure 40+day%7;draw 3;");
    for (int i = 0; i < days; i++) x.day();
    x.image(1);
    x.tell(0);
    x.hear(1);
    x.undo();
    return x;
  }

  private static void theLastDay() {
    c.promise(14, "NONE, doing nothing, behind 999 of them. (An ACT.)");
    c.due("day() behind 998", behindDays(998).day() == -1, false);
    new Twins(c, () -> behindDays(999)).still("day() behind 999", -1, SoldHouse::day);
    SoldHouse x = behindDays(999);
    x.undo();
    x.undo();
    c.due("undone to 998", x.about(3), 998);
    c.due("day() again", x.day() == -1, false);
    c.due("999", x.about(3), 999);
    c.due("day() at 999", x.day(), -1);
    c.due("back(1) to 999", x.back(1), 999);
    c.due("day() behind that", x.day(), -1);
    c.due("no ACT", x.about(5), 0);
    c.term("What lies ahead goes on as told beyond the last one that can be done, too.");
    x = Checks.of("room a;room b;thing t in a;sure (day < 1020)*100;");
    for (int i = 0; i < 999; i++) x.day();
    c.due("will(0, 21)", x.will(0, 21), 0);
    c.due("will(0, 22)", x.will(0, 22), 1);
    c.due("will(0, 60)", x.will(0, 60), 1);
    c.due("lost()", x.lost(), 22);
    x = Checks.of("room a;room b;thing t in a;sure 50+(day-998)*10;");
    for (int i = 0; i < 999; i++) x.day();
    c.due("stay(0, 4, 0)", x.stay(0, 4, 0), 189);
    c.due("stay(0, 4, 1)", x.stay(0, 4, 1), 625);
    c.due("the day is as it was", x.about(3), 999);
  }

  /** So many ACTS, by which a memory gets one DEEPER each. */
  private static SoldHouse behindActs(int n) {
    SoldHouse x = Checks.of(THREE);
    for (int i = 1; i <= n; i++) {
      if (i % 2 == 1) x.tell(1); else x.hear(1);
    }
    return x;
  }

  private static SoldHouse withoutActs() {
    SoldHouse x = Twins.full();
    x.back(0);
    return x;
  }

  private static void theUndo() {
    c.promise(15, "UNDO: true; false if there is none");
    c.term("UNDO takes back the latest ACT that was not");
    c.term("40 at most are kept, the oldest go");
    for (int n : new int[] {0, 1, 2, 38, 39, 40, 41, 42, 79, 80, 81, 82, 83}) {
      SoldHouse x = behindActs(n);
      int kept = Math.min(n, 40);
      for (int i = 0; i < kept; i++) {
        c.due("about(5) behind " + n + ", " + i + " undone", x.about(5), kept - i);
        c.due("about(6) behind " + n + ", " + i + " undone", x.about(6), i);
        c.due("DEEP behind " + n + ", " + i + " undone", x.thing(1, 5), n - i);
        c.due("undo() behind " + n, x.undo(), true);
      }
      c.due("undo() of none behind " + n, x.undo(), false);
      c.due("about(5)", x.about(5), 0);
      c.due("about(6)", x.about(6), kept);
      c.due("DEEP at the oldest of " + n, x.thing(1, 5), n - kept);
    }
    new Twins(c, ActBoundsTest::withoutActs).still("undo() of none", false, SoldHouse::undo);
    // each sort of ACT, taken back whole
    SoldHouse x = Checks.of(THREE + "sure 0;draw 12;");
    x.tell(0);
    undone(x, "tell", y -> y.tell(0));
    undone(x, "tell of another", y -> y.tell(2));
    undone(x, "hear", y -> y.hear(0));
    undone(x, "carry", y -> y.carry(0, 0));
    undone(x, "send", y -> y.send(1));
    undone(x, "day", y -> y.day());
    twins.still("what UNDO and REDO leave", true, y -> y.undo() && y.redo());
  }

  private static void undone(SoldHouse x, String act, ToLongFunction<SoldHouse> how) {
    Twins.changes(c, x, act + " and undo()", 1, y -> {
      how.applyAsLong(y);
      return y.undo() ? 1 : 0;
    }, x.about(6) == 1 ? new String[0] : new String[] {"about(6) 1"});
  }

  private static void theRedo() {
    c.promise(16, "REDO: true; false if there is none");
    c.term("REDO does that again which was taken back last (till another ACT)");
    for (int n : new int[] {0, 1, 2, 39, 40, 41, 81, 82}) {
      SoldHouse x = behindActs(n);
      int kept = Math.min(n, 40);
      while (x.about(5) > 0) x.undo();
      for (int i = 0; i < kept; i++) {
        c.due("about(6) behind " + n + ", " + i + " redone", x.about(6), kept - i);
        c.due("DEEP behind " + n + ", " + i + " redone", x.thing(1, 5), n - kept + i);
        c.due("redo() behind " + n, x.redo(), true);
      }
      c.due("redo() of none behind " + n, x.redo(), false);
      c.due("DEEP at last", x.thing(1, 5), n);
      c.due("about(5) at last", x.about(5), kept);
    }
    new Twins(c, ActBoundsTest::withoutActs).still("redo() of none", false, SoldHouse::redo);
    redone("tell", y -> y.tell(0), true);
    redone("hear", y -> y.hear(0), true);
    redone("carry", y -> y.carry(0, 0), true);
    redone("send", y -> y.send(0), true);
    redone("day", y -> y.day(), true);
    redone("a tell that tells nothing new", y -> y.tell(0) + y.tell(0), true);
    redone("tell of none", y -> y.tell(3), false);
    redone("hear of none", y -> y.hear(-1), false);
    redone("carry that can't be", y -> y.carry(2, 0), false);
    redone("send of none", y -> y.send(3), false);
    redone("image", y -> y.image(0), false);
    redone("back of nothing", y -> y.back(1), false);
    redone("heard", y -> y.heard(0, 0, true), false);
    redone("seen", y -> y.seen(0, 0, true), false);
    redone("untell", y -> y.untell(1) ? 1 : 0, false);
    redone("later", y -> y.later(5), false);
    redone("feed", y -> y.feed(0, 0, 0, 0, 0), false);
    redone("end", y -> y.end(0), false);
    redone("house of a FAULT", y -> y.house(), false);
    redone("way", y -> y.way(0, 1), false);
    redone("will", y -> y.will(0, 60), false);
    redone("lost", y -> y.lost(), false);
    // an ACT behind UNDO of some of 40: the others are there still
    for (int undone = 1; undone <= 40; undone++) {
      SoldHouse x = behindActs(45);
      for (int i = 0; i < undone; i++) x.undo();
      x.send(0);
      c.due("kept behind " + undone + " undone and one", x.about(5), 41 - undone);
      for (int i = 0; i < 41 - undone; i++) c.due("undo()", x.undo(), true);
      c.due("undo() of none", x.undo(), false);
      c.due("DEEP at the oldest", x.thing(1, 5), 5);
      c.due("OURS at the oldest", x.thing(0, 2), 1);
    }
  }

  private static void redone(String call, ToLongFunction<SoldHouse> how, boolean act) {
    SoldHouse x = Twins.full();
    c.due("two to redo", x.about(6), 2);
    how.applyAsLong(x);
    c.due("about(6) behind " + call, x.about(6), act ? 0 : 2);
    c.due("redo() behind " + call, x.redo(), !act);
  }

  private static void theImage() {
    c.promise(49, "Where THINGS are, where we THINK they are, whose they are, how DEEP, who spoke, the day, the SEED are kept in a BOX 0 .. 2: the day");
    SoldHouse x = Checks.of(THREE + "sure 0;draw 12;");
    for (int box = 0; box <= 2; box++) {
      int b = box;
      Twins.changes(c, x, "image(" + box + ")", box, y -> y.image(b));
      x.tell(0);
      x.hear(1);
      x.carry(1, 1);
      x.send(2);
      x.day();
    }
    int[] deep = {0, 1, 1};
    int[] spoke = {-1, 0, 0};
    int[] room = {2, 1, 2};
    int[] think = {2, 3, 2};
    int[] ours = {0, 1, 0};
    for (int box = 2; box >= 0; box--) {
      c.due("back(" + box + ")", x.back(box), box);
      c.due("the day", x.about(3), box);
      int seed = 12;
      for (int i = 0; i < box * 3; i++) seed = (seed * 137 + 71) % 1000;
      c.due("the SEED", x.about(4), seed);
      c.due("how DEEP", x.thing(0, 5), deep[box]);
      c.due("who spoke", x.thing(0, 6), spoke[box]);
      c.due("where it is", x.thing(1, 0), room[box]);
      c.due("where we THINK", x.thing(1, 1), think[box]);
      c.due("whose", x.thing(2, 2), ours[box]);
    }
    // a BOX that is full is filled anew
    c.due("image(2) anew", x.image(2), 0);
    c.due("back(1)", x.back(1), 1);
    c.due("back(2)", x.back(2), 0);
    c.promise(49, "NONE if there is none such");
    never("image", 3, -1, n -> y -> y.image(n));
    c.due("image(0) of nothing", new SoldHouse().image(0), 0);
    c.due("image(3) of nothing", new SoldHouse().image(3), -1);
  }

  private static void theBack() {
    c.promise(50, "All is as it was kept (no ACTS are kept then): the day");
    SoldHouse x = Twins.full();
    int heard = x.about(7);
    Twins.changes(c, x, "back(0)", 0, y -> y.back(0), changedByBack());
    c.due("HEARD stays", x.about(7), heard);
    c.due("undo()", x.undo(), false);
    c.due("redo()", x.redo(), false);
    c.due("a BOX is not emptied", x.back(0), 0);
    x.day();
    c.due("an ACT behind it", x.about(5), 1);
    c.due("undo() to it", x.undo(), true);
    c.due("day 0", x.about(3), 0);
    c.due("and no further", x.undo(), false);
    c.due("back(2)", x.back(2), 1);
    c.promise(50, "NONE, doing nothing, if nothing was");
    twins.still("back(1)", -1, y -> y.back(1));
    never("back", 3, -1, n -> y -> y.back(n));
    for (int box = 0; box < 3; box++) c.due("back(" + box + ") at first", new SoldHouse().back(box), -1);
    x.image(1);
    Checks.put(x, "room a;");
    x.end(0);
    Checks.put(x, "room a");
    c.due("house() of a FAULT", x.house(), -1);
    c.due("back(1) behind that", x.back(1), 1);
    Checks.put(x, ";");
    c.due("house()", x.house(), 1);
    for (int box = 0; box < 3; box++) c.due("back(" + box + ") behind a house", x.back(box), -1);
  }

  /** Behind full(): a DAY and a hear are done since image(0), a carry and a send were taken back. */
  private static String[] changedByBack() {
    SoldHouse x = Twins.full();
    List<String> changed = new ArrayList<>(List.of("about(3) 0", "about(4) 12", "about(5) 0", "about(6) 0"));
    // in the order of open(): ROOMS by what we THINK, then THINGS
    SoldHouse before = Checks.of("room a creaks 1;room b creaks 5;room c creaks 9;room d;door a b;door c b;"
        + "thing x in a was b ours us 3 them 9;thing y in c us 1;thing z in d was a them 4;sure 60-day*5+told*10;draw 12;");
    before.tell(0);
    for (int room = 0; room < 4; room++) {
      if (x.room(room, 3) != before.room(room, 3)) changed.add("room(" + room + ", 3) " + before.room(room, 3));
    }
    for (int thing = 0; thing < 3; thing++) {
      for (int what = 0; what < 8; what++) {
        if (x.thing(thing, what) != before.thing(thing, what)) changed.add("thing(" + thing + ", " + what + ") " + before.thing(thing, what));
      }
    }
    return changed.toArray(new String[0]);
  }

  private static void theAbout() {
    c.promise(51, "What 0: ROOMS, 1: DOORS, 2: THINGS, 3: the day, 4: the SEED, 5: ACTS that can be undone, 6: redone, 7: HEARD, 8: the TIME, 9: bytes on the TAPE, 10: units, 11: numbers that lie there");
    SoldHouse x = Twins.full();
    // draw 12, then by three THINGS: 715, 26, 633
    int[] due = {4, 2, 3, 1, 633, 3, 2, 2, 15, 23, 5, 3};
    for (int what = 0; what < 12; what++) c.due("about(" + what + ")", x.about(what), due[what]);
    x = Checks.of(MOST + "sure 1" + "+1".repeat(29) + ";draw 999;");
    int[] most = {8, 12, 6, 0, 999, 0, 0, 0, 0, 0, 30, 0};
    for (int what = 0; what < 12; what++) c.due("most about(" + what + ")", x.about(what), most[what]);
    for (int what = 0; what < 12; what++) {
      int w = what;
      twins.still("about(" + what + ")", due[what], y -> y.about(w));
    }
    c.promise(51, "NONE for another what");
    never("about", 12, -1, n -> y -> y.about(n));
  }
}
