import java.util.function.IntFunction;
import java.util.function.ToLongFunction;

/** The bounds of promises 42 to 48: HEARD, the TIME and WALKS, from both sides, and what they leave behind. */
public final class NightBoundsTest {
  private static final Checks c = new Checks("NightBoundsTest");
  private static final Twins twins = new Twins(c, Twins::full);
  private static final int[] NEVER = {-1, -2, -8, Integer.MIN_VALUE, Integer.MAX_VALUE};
  /** WALKS through a, b, d: 3, 7, 17, 41, 99, 239, 577, 1393 by one to eight minutes; from an end 1, 2, 5, 12, 29, 70, 169, 408. */
  private static final String LINE = "room a creaks 1;room b creaks 5;room d creaks 9;door a b;door b d;";
  private static final String EIGHT = "room a;room b;room c;room d;room e;room f;room g;room h;";
  private static final int[] FROM_END = {1, 2, 5, 12, 29, 70, 169, 408};
  private static final int[] FROM_MIDDLE = {1, 3, 7, 17, 41, 99, 239, 577};

  public static void main(String[] args) {
    theHeard();
    theSeen();
    theThirty();
    theUntell();
    theLater();
    theTimes();
    theWalks();
    theCertain();
    theAsk();
    c.finish();
  }

  private static void never(String call, int from, IntFunction<ToLongFunction<SoldHouse>> how) {
    for (int n : NEVER) twins.still(call + " of " + n, -1, how.apply(n));
    for (int n : new int[] {from, from + 1, from + 8, from + 256}) twins.still(call + " of " + n, -1, how.apply(n));
  }

  private static void theHeard() {
    c.promise(42, "A HEARD that at a minute (0 .. 7) it creaked so much (0 .. 9) at least, or did not: its number");
    c.term("that at a minute the ROOM he was in creaked so much at least, or did not");
    for (int minute = 0; minute <= 7; minute++) {
      for (int creaks = 0; creaks <= 9; creaks++) {
        SoldHouse x = Checks.of(LINE);
        c.due("heard(" + minute + ", " + creaks + ", true)", x.heard(minute, creaks, true), 0);
        c.due("about(7)", x.about(7), 1);
        int at = (creaks <= 1 ? through(minute, 0) : 0) + (creaks <= 5 ? through(minute, 1) : 0) + through(minute, 2);
        c.due("walks by " + minute + ", " + creaks, x.walks(0), at);
        x = Checks.of(LINE);
        c.due("heard(" + minute + ", " + creaks + ", false)", x.heard(minute, creaks, false), 0);
        c.due("walks without " + minute + ", " + creaks, x.walks(0), 1393 - at);
      }
    }
    SoldHouse x = Checks.of(LINE);
    x.later(20);
    Twins.changes(c, x, "heard(7, 9, true)", 0, y -> y.heard(7, 9, true), "about(7) 1");
    Twins.changes(c, x, "heard(0, 0, false)", 1, y -> y.heard(0, 0, false), "about(7) 2");
    c.promise(42, "NONE, doing nothing, if one can't be, or there are 30");
    never("heard at a minute", 8, n -> y -> y.heard(n, 5, true));
    never("heard of creaks", 10, n -> y -> y.heard(0, n, true));
    never("not heard at a minute", 8, n -> y -> y.heard(n, 5, false));
    never("not heard of creaks", 10, n -> y -> y.heard(0, n, false));
    c.due("heard(7, 9, true) of nothing", new SoldHouse().heard(7, 9, true), 0);
    c.due("heard(7, 10, true) of nothing", new SoldHouse().heard(7, 10, true), -1);
  }

  /** WALKS in LINE that are in a ROOM at a minute. */
  private static int through(int minute, int room) {
    int[] from = room == 1 ? FROM_MIDDLE : FROM_END;
    return from[minute] * from[7 - minute];
  }

  private static void theSeen() {
    c.promise(43, "A HEARD that at a minute he was in a ROOM, or was not: its number");
    c.term("that at a minute he was in a ROOM, or was not");
    for (int minute = 0; minute <= 7; minute++) {
      for (int room = 0; room < 3; room++) {
        SoldHouse x = Checks.of(LINE);
        c.due("seen(" + minute + ", " + room + ", true)", x.seen(minute, room, true), 0);
        c.due("walks by " + minute + ", " + room, x.walks(0), through(minute, room));
        x = Checks.of(LINE);
        c.due("seen(" + minute + ", " + room + ", false)", x.seen(minute, room, false), 0);
        c.due("walks without " + minute + ", " + room, x.walks(0), 1393 - through(minute, room));
      }
    }
    SoldHouse x = Checks.of(LINE);
    x.later(20);
    Twins.changes(c, x, "seen(7, 2, true)", 0, y -> y.seen(7, 2, true), "about(7) 1");
    Twins.changes(c, x, "heard behind it", 1, y -> y.heard(7, 2, true), "about(7) 2");
    Twins.changes(c, x, "seen behind that", 2, y -> y.seen(0, 0, false), "about(7) 3");
    c.promise(43, "NONE likewise");
    never("seen at a minute", 8, n -> y -> y.seen(n, 0, true));
    never("seen in a ROOM", 4, n -> y -> y.seen(0, n, true));
    never("not seen at a minute", 8, n -> y -> y.seen(n, 0, false));
    never("not seen in a ROOM", 4, n -> y -> y.seen(0, n, false));
    c.due("seen(0, 0, true) of nothing", new SoldHouse().seen(0, 0, true), -1);
    c.due("seen(0, 0, false) of nothing", new SoldHouse().seen(0, 0, false), -1);
  }

  /** full() with so many HEARD in all. */
  private static SoldHouse heard(int n) {
    SoldHouse x = Twins.full();
    for (int i = 2; i < n; i++) {
      if (i % 2 == 0) x.heard(i % 8, 0, true); else x.seen(i % 8, 3, i % 3 == 0);
    }
    return x;
  }

  private static void theThirty() {
    c.term("HEARD, 30 at most, is TOLD at a TIME (0 at first, goes on)");
    for (int n = 2; n < 30; n++) {
      c.due("heard at " + n, heard(n).heard(0, 0, true), n);
      c.due("seen at " + n, heard(n).seen(0, 0, true), n);
      c.due("about(7) at " + n, heard(n).about(7), n);
    }
    Twins thirty = new Twins(c, () -> heard(30));
    thirty.still("heard at 30", -1, y -> y.heard(0, 0, true));
    thirty.still("seen at 30", -1, y -> y.seen(0, 0, false));
    thirty.still("heard of what can't be at 30", -1, y -> y.heard(8, 0, true));
    SoldHouse x = heard(30);
    c.due("untell(29)", x.untell(29), true);
    x.later(1);
    c.due("heard at 30, one UNTOLD", x.heard(0, 0, true), -1);
    c.due("about(7)", x.about(7), 30);
    Checks.put(x, ";");
    x.end(0);
    c.due("a new HOUSE", x.house(), 0);
    c.due("heard in it", x.heard(0, 0, true), 0);
  }

  private static void theUntell() {
    c.promise(44, "It is UNTOLD: true; false if it is so already, or there is none such");
    c.term("UNTOLD at a later one or the same");
    SoldHouse x = Checks.of(LINE);
    x.later(9);
    x.seen(0, 2, true);
    x.later(1);
    Twins.changes(c, x, "untell(0) a minute later", 1, y -> y.untell(0) ? 1 : 0, "walks(10) 1393", "walks(12) 1393", "walks(13) 1393",
        "walks(15) 1393", "walks(16) 1393");
    x = Checks.of(LINE);
    x.later(9);
    x.seen(0, 2, true);
    Twins.changes(c, x, "untell(0) at once", 1, y -> y.untell(0) ? 1 : 0, "walks(9) 1393", "walks(10) 1393", "walks(12) 1393",
        "walks(13) 1393", "walks(15) 1393", "walks(16) 1393");
    x = Checks.of(LINE);
    x.seen(0, 2, true);
    c.due("untell(0) at TIME 0", x.untell(0), true);
    c.due("untell(0) again", x.untell(0), false);
    c.due("walks(0)", x.walks(0), 1393);
    twins.still("untell(0), so already", false, y -> y.untell(0));
    for (int n : NEVER) twins.still("untell(" + n + ")", false, y -> y.untell(n));
    for (int n : new int[] {2, 3, 29, 30, 31, 256}) twins.still("untell(" + n + ")", false, y -> y.untell(n));
    c.due("untell(1)", Twins.full().untell(1), true);
    // that it is UNTOLD stays at its first TIME
    x = Checks.of(LINE);
    x.seen(0, 2, true);
    x.later(4);
    x.untell(0);
    x.later(4);
    c.due("untell(0) later", x.untell(0), false);
    c.due("walks(3)", x.walks(3), 408);
    c.due("walks(4)", x.walks(4), 1393);
    c.due("untell(29) of 30", heard(30).untell(29), true);
    c.due("untell(30) of 30", heard(30).untell(30), false);
    c.due("untell(0) of none", new SoldHouse().untell(0), false);
  }

  private static SoldHouse atTime(int time) {
    SoldHouse x = Twins.full();
    for (int i = 0; i < 100 && x.about(8) + 1000 <= time; i++) x.later(1000);
    x.later(time - x.about(8));
    return x;
  }

  private static void theLater() {
    c.promise(45, "So much later (0 .. 1000): the TIME");
    SoldHouse x = new SoldHouse();
    c.due("the TIME at first", x.about(8), 0);
    Twins.changes(c, x, "later(0)", 0, y -> y.later(0));
    Twins.changes(c, x, "later(1)", 1, y -> y.later(1), "about(8) 1");
    Twins.changes(c, x, "later(999)", 1000, y -> y.later(999), "about(8) 1000");
    Twins.changes(c, x, "later(1000)", 2000, y -> y.later(1000), "about(8) 2000");
    c.promise(45, "NONE, doing nothing, for another number, or if it would be above 100,000");
    never("later", 1001, n -> y -> y.later(n));
    for (int time : new int[] {99000, 99001, 99500, 99999, 100000}) {
      c.due("TIME", atTime(time).about(8), time);
      int most = 100000 - time;
      c.due("later to the last", atTime(time).later(most), 100000);
      Twins late = new Twins(c, () -> atTime(time));
      late.still("later(" + (most + 1) + ") at " + time, -1, y -> y.later(most + 1));
      late.still("later(1000) at " + time, most == 1000 ? 100000 : -1, y -> most == 1000 ? 100000 : y.later(1000));
      late.still("later(0) at " + time, time, y -> y.later(0));
      late.still("later(1001) at " + time, -1, y -> y.later(1001));
      late.still("later(max) at " + time, -1, y -> y.later(Integer.MAX_VALUE));
    }
  }

  private static void theTimes() {
    c.term("As known at k those count that were TOLD at k or before, not UNTOLD at k or before");
    for (int told = 0; told <= 3; told++) {
      for (int untold = told; untold <= 4; untold++) {
        SoldHouse x = Checks.of(LINE);
        x.later(told);
        x.seen(0, 2, true);
        x.later(untold - told);
        if (untold < 4) x.untell(0);
        x.later(2);
        for (int k = -1; k <= 6; k++) {
          boolean counts = told <= k && (untold == 4 || untold > k);
          String at = " at " + k + ", TOLD at " + told + ", UNTOLD at " + untold;
          c.due("walks" + at, x.walks(k), counts ? 408 : 1393);
          c.due("certain" + at, x.certain(0, k), counts ? 2 : -2);
          c.due("ask" + at, x.ask(1, k), counts ? 169 : 577);
        }
        c.due("walks at the least k", x.walks(Integer.MIN_VALUE), 1393);
        c.due("walks at the most k", x.walks(Integer.MAX_VALUE), untold == 4 ? 408 : 1393);
      }
    }
    SoldHouse x = atTime(100000);
    c.due("TOLD at the last TIME", x.seen(0, 0, true), 2);
    x.seen(0, 1, true);
    c.due("not yet", x.walks(99999) > 0, true);
    c.due("then", x.walks(100000), 0);
    x.untell(3);
    c.due("UNTOLD at the last TIME", x.walks(100000) > 0, true);
  }

  private static void theWalks() {
    c.promise(46, "WALKS: how many");
    c.term("of somebody who went through the house for eight minutes, 0 .. 7, by a DOOR in each (or he stayed)");
    c.term("WALKS: how he can have gone by which all that count are so");
    c.due("of nothing", new SoldHouse().walks(0), 0);
    c.due("one ROOM", Checks.of("room a;").walks(0), 1);
    c.due("two apart", Checks.of("room a;room b;").walks(0), 2);
    c.due("two joined", Checks.of("room a;room b;door a b;").walks(0), 256);
    c.due("eight apart", Checks.of(EIGHT).walks(0), 8);
    c.due("a line", Checks.of(LINE).walks(0), 1393);
    c.due("five, each joined with each", Checks.of(five()).walks(0), 390625);
    SoldHouse x = Checks.of(LINE);
    // from one end to the other by the last minute: seven steps; two are the least
    x.seen(5, 0, true);
    x.seen(7, 2, true);
    c.due("two steps in two minutes", x.walks(0), FROM_END[5]);
    x.seen(6, 1, true);
    c.due("by the middle", x.walks(0), FROM_END[5]);
    x = Checks.of(LINE);
    x.seen(6, 0, true);
    x.seen(7, 2, true);
    c.due("two steps in one minute", x.walks(0), 0);
    // all eight minutes known: one
    x = Checks.of(LINE);
    int[] went = {0, 0, 1, 2, 2, 1, 0, 1};
    for (int minute = 0; minute < 8; minute++) x.seen(minute, went[minute], true);
    c.due("all known", x.walks(0), 1);
    x.heard(7, 6, true);
    c.due("and gainsaid", x.walks(0), 0);
    // in full() a line and one ROOM by itself; at 12 he began in b or c, at 15 he did not end in a
    twins.still("walks(9)", 1394, y -> y.walks(9));
    twins.still("walks(12)", 985, y -> y.walks(12));
    twins.still("walks(15)", 986, y -> y.walks(15));
    twins.still("walks(-1)", 1394, y -> y.walks(-1));
  }

  private static String five() {
    return "room a;room b;room c;room d;room e;door a b;door a c;door a d;door a e;door b c;door b d;door b e;door c d;door c e;door d e;";
  }

  private static void theCertain() {
    c.promise(47, "CERTAIN: the ROOM; -2 if it is not the same in all; NONE if there are no WALKS, or there is no such minute");
    c.term("CERTAIN at a minute: the ROOM, if it is the same in all");
    for (int minute = 0; minute < 8; minute++) {
      for (int room = 0; room < 3; room++) {
        SoldHouse x = Checks.of(LINE);
        x.seen(minute, room, true);
        for (int m = 0; m < 8; m++) c.due("certain(" + m + ", 0), seen at " + minute, x.certain(m, 0), m == minute ? room : -2);
        c.due("certain(8, 0)", x.certain(8, 0), -1);
        c.due("certain(-1, 0)", x.certain(-1, 0), -1);
        x.seen(minute, room, false);
        for (int m = -1; m <= 8; m++) c.due("certain(" + m + ", 0) without WALKS", x.certain(m, 0), -1);
      }
    }
    // known by what is known of the minutes about it
    SoldHouse x = Checks.of(LINE);
    x.seen(2, 0, true);
    x.seen(4, 2, true);
    c.due("between", x.certain(3, 0), 1);
    c.due("ahead", x.certain(1, 0), -2);
    c.due("behind", x.certain(5, 0), -2);
    for (int room = 0; room < 8; room++) {
      x = Checks.of(EIGHT);
      x.seen(3, room, true);
      for (int m = 0; m < 8; m++) c.due("eight apart: certain(" + m + ", 0) by " + room, x.certain(m, 0), room);
      c.due("eight apart: walks(0)", x.walks(0), 1);
    }
    x = Checks.of(EIGHT);
    x.seen(7, 0, false);
    for (int m = 0; m < 8; m++) c.due("seven apart: certain(" + m + ", 0)", x.certain(m, 0), -2);
    c.due("one ROOM", Checks.of("room a;").certain(7, 0), 0);
    c.due("of nothing", new SoldHouse().certain(0, 0), -1);
    twins.still("certain(0, 12)", -2, y -> y.certain(0, 12));
    twins.still("certain(7, 15)", -2, y -> y.certain(7, 15));
    never("certain at a minute", 8, n -> y -> y.certain(n, 15));
  }

  private static void theAsk() {
    c.promise(48, "ASK what 0: the minute, 1: how many are left at the most; NONE if there are no WALKS, or for another what");
    c.term("ASK: the minute of which to know the ROOM would leave the fewest of these at the most; of like ones the first");
    SoldHouse x = Checks.of(LINE);
    c.due("all like at both ends: ask(0, 0)", x.ask(0, 0), 0);
    c.due("all like at both ends: ask(1, 0)", x.ask(1, 0), 577);
    // begun in b: at minute 1 each of the three leaves its own, 239 by b
    x.seen(0, 1, true);
    c.due("begun in b: ask(0, 0)", x.ask(0, 0), 1);
    c.due("begun in b: ask(1, 0)", x.ask(1, 0), 239);
    // known for minutes 0 .. m: the next one is the first that tells
    x = Checks.of(five());
    for (int m = 0; m < 8; m++) {
      c.due("ask(0, 0) of five, " + m + " known", x.ask(0, 0), m);
      c.due("ask(1, 0) of five, " + m + " known", x.ask(1, 0), (int) Math.pow(5, 7 - m));
      x.seen(m, m % 5, true);
    }
    c.due("all known: ask(0, 0)", x.ask(0, 0), 0);
    c.due("all known: ask(1, 0)", x.ask(1, 0), 1);
    x.seen(7, 0, true);
    c.due("no WALKS: ask(0, 0)", x.ask(0, 0), -1);
    c.due("no WALKS: ask(1, 0)", x.ask(1, 0), -1);
    c.due("of nothing: ask(0, 0)", new SoldHouse().ask(0, 0), -1);
    // known but for the last minute: that one
    x = Checks.of(five());
    for (int m = 0; m < 7; m++) x.seen(m, 0, true);
    c.due("the last minute", x.ask(0, 0), 7);
    c.due("one is left", x.ask(1, 0), 1);
    c.due("one ROOM: ask(0, 0)", Checks.of("room a;").ask(0, 0), 0);
    c.due("one ROOM: ask(1, 0)", Checks.of("room a;").ask(1, 0), 1);
    c.due("eight apart: ask(0, 0)", Checks.of(EIGHT).ask(0, 0), 0);
    c.due("eight apart: ask(1, 0)", Checks.of(EIGHT).ask(1, 0), 1);
    // two joined among eight: whoever is in these two leaves 128 by minute 0
    c.due("two of eight joined: ask(1, 0)", Checks.of(EIGHT + "door a h;").ask(1, 0), 128);
    x = Checks.of(EIGHT + "door a h;");
    x.seen(0, 7, true);
    for (int m = 1; m < 7; m++) x.seen(m, 0, false);
    c.due("but at the last: ask(0, 0)", x.ask(0, 0), 7);
    c.due("but at the last: ask(1, 0)", x.ask(1, 0), 1);
    c.due("two apart: ask(0, 0)", Checks.of("room a;room b;").ask(0, 0), 0);
    c.due("two apart: ask(1, 0)", Checks.of("room a;room b;").ask(1, 0), 1);
    twins.still("ask(0, 9)", 0, y -> y.ask(0, 9));
    twins.still("ask(1, 9)", 577, y -> y.ask(1, 9));
    never("ask", 2, n -> y -> y.ask(n, 15));
  }
}
