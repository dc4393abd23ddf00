import java.math.BigInteger;
import java.util.function.IntFunction;
import java.util.function.ToLongFunction;

/** The bounds of promises 30 to 40: memories, worths and odds, from both sides, with nothing done. */
public final class ThingBoundsTest {
  private static final Checks c = new Checks("ThingBoundsTest");
  private static final Twins twins = new Twins(c, Twins::full);
  private static final int[] NEVER = {-1, -2, -8, Integer.MIN_VALUE, Integer.MAX_VALUE};

  public static void main(String[] args) {
    theMend();
    theRegret();
    theTrade();
    theTrades();
    theWealth();
    theOff();
    theRight();
    theDeep();
    theStay();
    theWill();
    theLost();
    theNow();
    c.finish();
  }

  private static void never(String call, int from, IntFunction<ToLongFunction<SoldHouse>> how) {
    for (int n : NEVER) twins.still(call + " of " + n, -1, how.apply(n));
    for (int n : new int[] {from, from + 1, from + 99, from + 256}) twins.still(call + " of " + n, -1, how.apply(n));
  }

  /** ROOMS a .. h in a row of 8. */
  private static String line() {
    StringBuilder t = new StringBuilder();
    for (char r = 'a'; r <= 'h'; r++) t.append("room ").append(r).append(';');
    for (char r = 'a'; r < 'h'; r++) t.append("door ").append(r).append(' ').append((char) (r + 1)).append(';');
    return t.toString();
  }

  /** THINGS by whose they are and their worths, all in one ROOM. */
  private static SoldHouse worths(int[]... things) {
    StringBuilder t = new StringBuilder("room a;");
    for (int i = 0; i < things.length; i++) {
      t.append("thing ").append((char) ('p' + i)).append(" in a").append(things[i][0] == 1 ? " ours" : "");
      t.append(" us ").append(things[i][1]).append(" them ").append(things[i][2]).append(';');
    }
    return Checks.of(t.toString());
  }

  private static void theMend() {
    c.promise(30, "How many THINGS at most could be where we THINK, if they were CARRIED by so many DOORS (0 .. 99) in all; NONE for another number");
    // 7 DOORS off each: six of them take 42
    StringBuilder t = new StringBuilder(line());
    for (int i = 0; i < 6; i++) t.append("thing ").append((char) ('p' + i)).append(" in a was h;");
    SoldHouse x = Checks.of(t.toString());
    for (int doors = 0; doors <= 99; doors++) c.due("mend(" + doors + ") of 7 each", x.mend(doors), Math.min(6, doors / 7));
    c.due("mend(100)", x.mend(100), -1);
    // 0, 1, 2, 3, 4 and 5 DOORS off: bounds at 0, 1, 3, 6, 10 and 15, whichever is told first
    t = new StringBuilder(line());
    for (int i = 5; i >= 0; i--) t.append("thing ").append((char) ('p' + i)).append(" in a was ").append((char) ('a' + i)).append(';');
    x = Checks.of(t.toString());
    int[] bounds = {0, 1, 3, 6, 10, 15};
    for (int doors = 0; doors <= 20; doors++) {
      int due = 0;
      for (int bound : bounds) if (doors >= bound) due++;
      c.due("mend(" + doors + ") of 0 to 5", x.mend(doors), due);
    }
    // where no DOORS lead, none are enough
    x = Checks.of("room a;room b;thing p in a was b;thing q in b was a;thing r in b;");
    c.due("apart: mend(0)", x.mend(0), 1);
    c.due("apart: mend(9)", x.mend(9), 1);
    c.due("apart: mend(99)", x.mend(99), 1);
    c.due("mend(0) of nothing", new SoldHouse().mend(0), 0);
    c.due("mend(99) of nothing", new SoldHouse().mend(99), 0);
    c.due("mend(100) of nothing", new SoldHouse().mend(100), -1);
    twins.still("mend(0)", 1, y -> y.mend(0));
    twins.still("mend(1)", 2, y -> y.mend(1));
    twins.still("mend(99)", 2, y -> y.mend(99));
    never("mend", 100, n -> y -> y.mend(n));
  }

  private static void theRegret() {
    c.promise(31, "THINGS that are worth more to the other family than to the one that has them, as bits");
    SoldHouse x = worths(new int[] {1, 25, 24}, new int[] {1, 25, 25}, new int[] {1, 25, 26}, new int[] {0, 24, 25}, new int[] {0, 25, 25}, new int[] {0, 26, 25});
    c.due("regret()", x.regret(), 4 + 32);
    for (int i = 0; i < 6; i++) x.send(i);
    c.due("all sent: regret()", x.regret(), 1 + 8);
    x = worths(new int[] {1, 0, 50}, new int[] {0, 50, 0}, new int[] {1, 0, 50}, new int[] {0, 50, 0}, new int[] {1, 0, 50}, new int[] {0, 50, 0});
    c.due("all of six", x.regret(), 63);
    c.due("of nothing", new SoldHouse().regret(), 0);
    twins.still("regret()", 3, SoldHouse::regret);
  }

  private static void trade(String when, SoldHouse x, int gain, int ours, int theirs) {
    c.due(when + ": trade(0)", x.trade(0), gain);
    c.due(when + ": trade(1)", x.trade(1), ours);
    c.due(when + ": trade(2)", x.trade(2), theirs);
  }

  private static void theTrade() {
    c.promise(32, "TRADE what 0: what both gain together, 1: the one of OURS, 2: the other one; NONE if there is none, or for another what");
    c.term("TRADE: one of OURS for one of theirs, by which neither family loses (by worths to itself), and both together gain most; of like ones the first (OURS, then theirs)");
    trade("the most", worths(new int[] {1, 0, 50}, new int[] {0, 50, 0}), 100, 0, 1);
    trade("told the other way round", worths(new int[] {0, 50, 0}, new int[] {1, 0, 50}), 100, 1, 0);
    trade("nobody gains", worths(new int[] {1, 20, 30}, new int[] {0, 20, 30}), 0, 0, 1);
    trade("we gain one", worths(new int[] {1, 20, 30}, new int[] {0, 21, 30}), 1, 0, 1);
    trade("they gain one", worths(new int[] {1, 20, 31}, new int[] {0, 20, 30}), 1, 0, 1);
    trade("we lose one", worths(new int[] {1, 21, 50}, new int[] {0, 20, 0}), -1, -1, -1);
    trade("they lose one", worths(new int[] {1, 0, 29}, new int[] {0, 50, 30}), -1, -1, -1);
    trade("all OURS", worths(new int[] {1, 0, 0}, new int[] {1, 0, 0}), -1, -1, -1);
    trade("all theirs", worths(new int[] {0, 0, 0}, new int[] {0, 0, 0}), -1, -1, -1);
    trade("one alone", worths(new int[] {1, 0, 50}), -1, -1, -1);
    trade("of nothing", new SoldHouse(), -1, -1, -1);
    trade("OURS first, then theirs", worths(new int[] {0, 5, 5}, new int[] {1, 5, 5}, new int[] {0, 5, 5}, new int[] {1, 5, 5}), 0, 1, 0);
    trade("more, though later", worths(new int[] {0, 5, 5}, new int[] {1, 5, 5}, new int[] {0, 5, 5}, new int[] {1, 5, 6}), 1, 3, 0);
    trade("more by the last of both", worths(new int[] {0, 5, 5}, new int[] {1, 5, 5}, new int[] {1, 5, 5}, new int[] {1, 5, 5},
        new int[] {1, 4, 5}, new int[] {0, 5, 4}), 2, 4, 5);
    // by who has them now
    SoldHouse x = worths(new int[] {1, 0, 50}, new int[] {1, 50, 0});
    c.due("ahead of a send", x.trade(0), -1);
    x.send(1);
    trade("behind a send", x, 100, 0, 1);
    x.send(0);
    x.send(1);
    c.due("the other way round both lose", x.trade(0), -1);
    twins.still("trade(0)", -1, y -> y.trade(0));
    Twins fair = new Twins(c, () -> worths(new int[] {1, 2, 9}, new int[] {0, 5, 4}));
    fair.still("trade(0), fair", 8, y -> y.trade(0));
    fair.still("trade(1), fair", 0, y -> y.trade(1));
    fair.still("trade(2), fair", 1, y -> y.trade(2));
    for (int what : NEVER) fair.still("trade(" + what + ")", -1, y -> y.trade(what));
    for (int what : new int[] {3, 4, 256}) fair.still("trade(" + what + ")", -1, y -> y.trade(what));
    never("trade", 3, n -> y -> y.trade(n));
  }

  private static void theTrades() {
    c.promise(33, "TRADES: how many");
    c.term("TRADES: as many of these at once as can be, each THING in one at most, so that neither family loses by any of them: how many");
    int[][] even = new int[6][];
    for (int ours = 0; ours <= 6; ours++) {
      for (int i = 0; i < 6; i++) even[i] = new int[] {i < ours ? 1 : 0, 7, 7};
      c.due(ours + " of six OURS", worths(even).trades(), Math.min(ours, 6 - ours));
    }
    for (int set = 0; set < 64; set++) {
      for (int i = 0; i < 6; i++) even[i] = new int[] {set >> i & 1, 7, 7};
      c.due("OURS by " + set, worths(even).trades(), Math.min(Integer.bitCount(set), 6 - Integer.bitCount(set)));
    }
    // one of theirs that all of OURS would be given for: one TRADE
    c.due("one partner for three", worths(new int[] {1, 1, 9}, new int[] {1, 1, 9}, new int[] {1, 1, 9}, new int[] {0, 9, 1},
        new int[] {0, 0, 0}).trades(), 1);
    // the first takes what the second needs, unless it takes another one
    c.due("the first gives way", worths(new int[] {1, 1, 9}, new int[] {1, 5, 9}, new int[] {0, 9, 1}, new int[] {0, 2, 1}).trades(), 2);
    c.due("all three give way", worths(new int[] {1, 1, 9}, new int[] {1, 2, 9}, new int[] {1, 3, 9}, new int[] {0, 3, 1},
        new int[] {0, 2, 1}, new int[] {0, 1, 1}).trades(), 3);
    c.due("none by one", worths(new int[] {1, 6, 5}, new int[] {0, 5, 5}).trades(), 0);
    c.due("one at the bound", worths(new int[] {1, 5, 5}, new int[] {0, 5, 5}).trades(), 1);
    c.due("of nothing", new SoldHouse().trades(), 0);
    twins.still("trades()", 0, SoldHouse::trades);
  }

  private static void theWealth() {
    c.promise(34, "THINGS that a family (0 we, 1 they) has, together by their worth to it; NONE for another one");
    int[][] all = new int[6][];
    for (int ours = 0; ours <= 6; ours++) {
      for (int i = 0; i < 6; i++) all[i] = new int[] {i < ours ? 1 : 0, 50, 49};
      c.due("wealth(0) of " + ours, worths(all).wealth(0), 50 * ours);
      c.due("wealth(1) of " + (6 - ours), worths(all).wealth(1), 49 * (6 - ours));
    }
    SoldHouse x = worths(new int[] {1, 3, 4});
    x.send(0);
    c.due("sent: wealth(0)", x.wealth(0), 0);
    c.due("sent: wealth(1)", x.wealth(1), 4);
    c.due("wealth(0) of nothing", new SoldHouse().wealth(0), 0);
    c.due("wealth(1) of nothing", new SoldHouse().wealth(1), 0);
    twins.still("wealth(0)", 3, y -> y.wealth(0));
    twins.still("wealth(1)", 4, y -> y.wealth(1));
    never("wealth", 2, n -> y -> y.wealth(n));
  }

  private static void theOff() {
    c.promise(35, "OFF");
    c.term("OFF: FAR of where each THING is and where we THINK, together (9 each without DOORS)");
    StringBuilder far = new StringBuilder(line());
    StringBuilder apart = new StringBuilder("room a;room b;");
    for (int i = 1; i <= 6; i++) {
      far.append("thing ").append((char) ('p' + i)).append(" in a was h;");
      apart.append("thing ").append((char) ('p' + i)).append(" in a was b;");
      c.due("off() of " + i + " by 7 DOORS", Checks.of(far.toString()).off(), 7 * i);
      c.due("off() of " + i + " apart", Checks.of(apart.toString()).off(), 9 * i);
    }
    c.due("off() of one that is right", Checks.of("room a;thing t in a;").off(), 0);
    c.due("off() of nothing", new SoldHouse().off(), 0);
    twins.still("off()", 10, SoldHouse::off);
  }

  private static void theRight() {
    c.promise(36, "THINGS that are where we THINK, as bits");
    SoldHouse x = Checks.of("room a;room b;thing p in a;thing q in b;thing r in a was b;thing s in b was b;thing t in b was a;thing u in a;");
    c.due("right()", x.right(), 1 + 2 + 8 + 32);
    x.hear(2);
    x.hear(4);
    c.due("all of six", x.right(), 63);
    c.due("of nothing", new SoldHouse().right(), 0);
    twins.still("right()", 2, SoldHouse::right);
  }

  private static void theDeep() {
    c.promise(37, "THINGS of which both know that both know so deep (0 .. 99) at least, as bits; NONE for another number");
    SoldHouse x = Checks.of("room a;thing p in a;thing q in a;thing r in a;");
    for (int i = 0; i < 50; i++) {
      x.tell(0);
      x.hear(0);
      if (i < 49) x.tell(2);
      if (i < 49) x.hear(2);
    }
    // p is 99 DEEP, q 0, r 98
    c.due("deep(0)", x.deep(0), 7);
    c.due("deep(1)", x.deep(1), 5);
    c.due("deep(98)", x.deep(98), 5);
    c.due("deep(99)", x.deep(99), 1);
    c.due("deep(100)", x.deep(100), -1);
    c.due("deep(0) of nothing", new SoldHouse().deep(0), 0);
    c.due("deep(99) of nothing", new SoldHouse().deep(99), 0);
    c.due("deep(100) of nothing", new SoldHouse().deep(100), -1);
    twins.still("deep(0)", 7, y -> y.deep(0));
    twins.still("deep(1)", 3, y -> y.deep(1));
    twins.still("deep(99)", 0, y -> y.deep(99));
    never("deep", 100, n -> y -> y.deep(n));
  }

  private static void theStay() {
    c.promise(38, "STAY (n 0 .. 4) the upper part (0), the lower part (1), in lowest terms (0 of 1), the day going on, nothing else; NONE if one can't be");
    c.term("STAY of a THING for n DAYS: the odds that its memory does not slip, each DAY by itself, whatever the SEED is");
    for (int sure = 0; sure <= 100; sure++) {
      SoldHouse x = Checks.of("room a;room b;thing t in a;sure " + sure + ";draw 999;");
      long upper = 1;
      long lower = 1;
      for (int n = 0; n <= 4; n++) {
        long by = BigInteger.valueOf(upper).gcd(BigInteger.valueOf(lower)).longValueExact();
        c.due("stay(0, " + n + ", 0) by " + sure, x.stay(0, n, 0), upper / by);
        c.due("stay(0, " + n + ", 1) by " + sure, x.stay(0, n, 1), lower / by);
        upper *= sure;
        lower *= 100;
      }
      c.due("stay(0, 5, 0)", x.stay(0, 5, 0), -1);
    }
    // the day goes on, but not told, nor where we THINK it is: 90, 80, 70, 60 of 100
    SoldHouse x = Checks.of("room a;room b;thing t in a;sure 90-day*10-far*50;draw 999;");
    c.due("stay(0, 4, 0)", x.stay(0, 4, 0), 189);
    c.due("stay(0, 4, 1)", x.stay(0, 4, 1), 625);
    x = Checks.of("room a;room b;thing t in a;sure (day = 3)*0+(day < 3)*100;");
    c.due("certain for three", x.stay(0, 3, 0), 1);
    c.due("certain for three, lower", x.stay(0, 3, 1), 1);
    c.due("none of four", x.stay(0, 4, 0), 0);
    c.due("none of four, lower", x.stay(0, 4, 1), 1);
    twins.still("stay(0, 4, 0)", 429, y -> y.stay(0, 4, 0));
    twins.still("stay(0, 4, 1)", 4000, y -> y.stay(0, 4, 1));
    twins.still("stay(2, 0, 0)", 1, y -> y.stay(2, 0, 0));
    twins.still("stay(2, 0, 1)", 1, y -> y.stay(2, 0, 1));
    twins.still("stay(2, 1, 0)", 11, y -> y.stay(2, 1, 0));
    twins.still("stay(2, 1, 1)", 20, y -> y.stay(2, 1, 1));
    never("stay of a THING", 3, n -> y -> y.stay(n, 1, 0));
    never("stay for DAYS", 5, n -> y -> y.stay(0, n, 0));
    never("stay's part", 2, n -> y -> y.stay(0, 1, n));
    c.due("stay(0, 0, 0) of nothing", new SoldHouse().stay(0, 0, 0), -1);
  }

  private static void theWill() {
    c.promise(39, "WILL (n 0 .. 60; by the SEED, nothing told); NONE if one can't be");
    c.term("WILL: where we THINK a THING is behind n DAYS");
    String text = "room a;room b;room c;room d;room e;thing p in a was b;thing q in c;thing r in e;sure 55-day+far*3+told*40;draw 314;";
    SoldHouse x = Checks.of(text);
    x.tell(1);
    SoldHouse goes = Checks.of(text);
    goes.tell(1);
    for (int n = 0; n <= 60; n++) {
      for (int t = 0; t < 3; t++) c.due("will(" + t + ", " + n + ")", x.will(t, n), goes.thing(t, 1));
      goes.day();
    }
    c.due("will(0, 61)", x.will(0, 61), -1);
    c.due("will(3, 60)", x.will(3, 60), -1);
    // all slip each DAY: 60 DAYS round five ROOMS, and round eight
    x = Checks.of("room a;room b;room c;room d;room e;room f;room g;room h;thing t in a was h;sure 0;");
    for (int n = 0; n <= 60; n++) c.due("will(0, " + n + ") round", x.will(0, n), (7 + n) % 8);
    twins.still("will(0, 0)", 1, y -> y.will(0, 0));
    twins.still("will(2, 60)", will60(), y -> y.will(2, 60));
    never("will of a THING", 3, n -> y -> y.will(n, 0));
    never("will for DAYS", 61, n -> y -> y.will(0, n));
    c.due("will(0, 0) of nothing", new SoldHouse().will(0, 0), -1);
  }

  private static int will60() {
    SoldHouse x = Twins.full();
    for (int i = 0; i < 60; i++) x.day();
    return x.thing(2, 1);
  }

  private static void theLost() {
    c.promise(40, "Behind how many DAYS (0 .. 60; by the SEED, nothing told) we do not THINK any THING is where it is first; NONE if never, or without THINGS");
    for (int n = 1; n <= 63; n++) {
      SoldHouse x = Checks.of("room a;room b;thing t in a;thing u in b;sure (day < " + (n - 1) + ")*100;");
      c.due("lost() if it slips on DAY " + n, x.lost(), n <= 60 ? n : -1);
    }
    c.due("at once", Checks.of("room a;room b;thing t in a was b;").lost(), 0);
    c.due("one of two is right", Checks.of("room a;room b;thing t in a was b;thing u in a;").lost(), -1);
    c.due("none slips", Checks.of("room a;room b;thing t in a;sure 100;").lost(), -1);
    c.due("one ROOM", Checks.of("room a;thing t in a;sure 0;").lost(), -1);
    c.due("by turns", Checks.of("room a;room b;thing t in a;thing u in a was b;sure 0;").lost(), -1);
    c.due("first, not at last", Checks.of("room a;room b;thing t in a;sure 0;").lost(), 1);
    c.due("without THINGS", Checks.of("room a;").lost(), -1);
    c.due("of nothing", new SoldHouse().lost(), -1);
    int behind = 0;
    SoldHouse x = Twins.full();
    while (behind <= 60 && x.right() != 0) {
      x.day();
      behind++;
    }
    twins.still("lost()", behind <= 60 ? behind : -1, SoldHouse::lost);
  }

  private static void theNow() {
    c.term("(By what is now; nothing is done.");
    SoldHouse x = Checks.of("room a;room b;room d;door a b;door b d;thing p in a ours us 1 them 2;thing q in d us 2 them 1;sure 0;draw 5;");
    said("at first", x, 0, 3, 2, 3, 2, 1, 1, 1, 0, 1);
    x.carry(0, 0);
    said("carried", x, 1, 2, 1, 3, 2, 1, 1, 1, 0, 1);
    x.day();
    said("a DAY later", x, 2, 1, 1, 3, 2, 1, 1, 1, 1, 2);
    x.send(1);
    said("sent", x, 2, 1, 1, 1, -1, 0, 3, 0, 1, 2);
    x.hear(1);
    said("heard of", x, 0, 3, 2, 1, -1, 0, 3, 0, 1, 2);
    for (int i = 0; i < 4; i++) x.undo();
    said("undone", x, 0, 3, 2, 3, 2, 1, 1, 1, 0, 1);
  }

  /** OFF, right, mend(0), regret, trade(0), trades, wealth of both, where we THINK the first is, and will be. */
  private static void said(String when, SoldHouse x, int... due) {
    int[] said = {x.off(), x.right(), x.mend(0), x.regret(), x.trade(0), x.trades(), x.wealth(0), x.wealth(1), x.will(0, 0), x.will(0, 1)};
    String[] call = {"off", "right", "mend", "regret", "trade", "trades", "wealth(0)", "wealth(1)", "will(0, 0)", "will(0, 1)"};
    for (int i = 0; i < due.length; i++) c.due(when + ": " + call[i], said[i], due[i]);
  }
}
