/** Promises 30 to 41: memories, worths and odds. */
public final class ThingsTest {
  private static final Checks c = new Checks("ThingsTest");

  public static void main(String[] args) {
    mending();
    trading();
    staying();
    ahead();
    c.finish();
  }

  private static void mending() {
    // in a line: 0, 1, 2, 3 DOORS off, and no way
    SoldHouse x = Checks.of("room a;room b;room c;room d;room e;door a b;door b c;door c d;"
        + "thing p in a was d;thing q in a;thing r in c was b;thing s in a was c;thing t in e was a;");
    int[] due = {1, 2, 2, 3, 3, 3, 4, 4};
    for (int n = 0; n < due.length; n++) c.due("mend(" + n + ")", x.mend(n), due[n]);
    c.due("mend(99)", x.mend(99), 4);
    c.due("mend(100)", x.mend(100), -1);
    c.due("mend(-1)", x.mend(-1), -1);
    c.due("off()", x.off(), 3 + 1 + 2 + 9);
    c.due("right()", x.right(), 2);
    x.hear(0);
    c.due("off() heard", x.off(), 1 + 2 + 9);
    c.due("right() heard", x.right(), 3);
    c.due("mend(0) heard", x.mend(0), 2);
    x.undo();
    c.due("off() undone", x.off(), 15);
    x.carry(1, 0);
    c.due("off() carried", x.off(), 16);
    c.due("right() carried", x.right(), 0);
  }

  private static void trading() {
    SoldHouse x = Checks.of("room a;thing p in a ours us 5 them 9;thing q in a ours us 2 them 9;"
        + "thing r in a us 6 them 9;thing s in a us 5 them 1;thing t in a us 1 them 0;");
    // p for r: 1 and 0; p for s: 0 and 8; q for r: 4 and 0; q for s: 3 and 8; none for t
    c.due("trade(0)", x.trade(0), 11);
    c.due("trade(1)", x.trade(1), 1);
    c.due("trade(2)", x.trade(2), 3);
    c.due("trade(3)", x.trade(3), -1);
    c.due("trade(-1)", x.trade(-1), -1);
    c.due("trades()", x.trades(), 2);
    c.due("regret()", x.regret(), 1 + 2 + 8 + 16);
    c.due("wealth(0)", x.wealth(0), 7);
    c.due("wealth(1)", x.wealth(1), 10);
    c.due("wealth(2)", x.wealth(2), -1);
    c.due("wealth(-1)", x.wealth(-1), -1);
    x.send(3);
    c.due("sent trade(0)", x.trade(0), 4);
    c.due("sent trade(1)", x.trade(1), 1);
    c.due("sent trade(2)", x.trade(2), 2);
    c.due("sent trades()", x.trades(), 1);
    c.due("sent regret()", x.regret(), 1 + 2 + 16);
    c.due("sent wealth(0)", x.wealth(0), 12);
    c.due("sent wealth(1)", x.wealth(1), 9);
    // no gain is no loss; of like ones the first
    x = Checks.of("room a;thing p in a us 3 them 3;thing q in a ours us 3 them 3;thing r in a ours us 3 them 3;thing s in a us 3 them 3;");
    c.due("even trade(0)", x.trade(0), 0);
    c.due("even trade(1)", x.trade(1), 1);
    c.due("even trade(2)", x.trade(2), 0);
    c.due("even trades()", x.trades(), 2);
    c.due("even regret()", x.regret(), 0);
    // one loses
    x = Checks.of("room a;thing p in a ours us 3 them 9;thing q in a us 2 them 1;");
    for (int what = 0; what < 3; what++) c.due("lossy trade(" + what + ")", x.trade(what), -1);
    c.due("lossy trades()", x.trades(), 0);
    // the greedy choice takes the only partner of another
    x = Checks.of("room a;thing p in a ours us 1 them 9;thing q in a ours us 5 them 9;thing r in a us 9 them 1;thing s in a us 2 them 1;");
    c.due("matched trades()", x.trades(), 2);
    c.due("matched trade(0)", x.trade(0), 16);
    // all of one family
    x = Checks.of("room a;thing p in a ours;thing q in a ours;");
    c.due("all OURS trade(0)", x.trade(0), -1);
    c.due("all OURS trades()", x.trades(), 0);
  }

  private static void staying() {
    SoldHouse x = Checks.of("room a;thing t in a;thing u in a;sure 90-day*15;");
    int[][] due = {{1, 1}, {9, 10}, {27, 40}, {81, 200}, {729, 4000}};
    for (int n = 0; n <= 4; n++) {
      for (int part = 0; part < 2; part++) c.due("stay(0, " + n + ", " + part + ")", x.stay(0, n, part), due[n][part]);
    }
    c.due("stay(0, 5, 0)", x.stay(0, 5, 0), -1);
    c.due("stay(0, -1, 0)", x.stay(0, -1, 0), -1);
    c.due("stay(2, 0, 0)", x.stay(2, 0, 0), -1);
    c.due("stay(-1, 0, 0)", x.stay(-1, 0, 0), -1);
    c.due("stay(0, 0, 2)", x.stay(0, 0, 2), -1);
    c.due("stay(0, 0, -1)", x.stay(0, 0, -1), -1);
    for (int i = 0; i < 4; i++) x.day();
    c.due("later stay(0, 2, 0)", x.stay(0, 2, 0), 9);
    c.due("later stay(0, 2, 1)", x.stay(0, 2, 1), 200);
    c.due("later stay(0, 3, 0)", x.stay(0, 3, 0), 0);
    c.due("later stay(0, 3, 1)", x.stay(0, 3, 1), 1);
    x = Checks.of("room a;thing t in a;sure 99;");
    c.due("99 stay upper", x.stay(0, 4, 0), 96059601);
    c.due("99 stay lower", x.stay(0, 4, 1), 100000000);
    x = Checks.of("room a;thing t in a;");
    c.due("sure stay upper", x.stay(0, 4, 0), 1);
    c.due("sure stay lower", x.stay(0, 4, 1), 1);
    x = Checks.of("room a;thing t in a;sure 0;");
    c.due("0 stay(0, 0, 0)", x.stay(0, 0, 0), 1);
    c.due("0 stay(0, 1, 0)", x.stay(0, 1, 0), 0);
    c.due("0 stay(0, 1, 1)", x.stay(0, 1, 1), 1);
  }

  private static void ahead() {
    SoldHouse x = Checks.of("room a;room b;room c;room d;thing t in a;thing u in b was c;thing v in d;sure 60-day*2;draw 77;");
    int[][] will = new int[61][3];
    for (int n = 0; n <= 60; n++) {
      for (int t = 0; t < 3; t++) will[n][t] = x.will(t, n);
    }
    c.due("will(3, 0)", x.will(3, 0), -1);
    c.due("will(-1, 0)", x.will(-1, 0), -1);
    c.due("will(0, 61)", x.will(0, 61), -1);
    c.due("will(0, -1)", x.will(0, -1), -1);
    c.due("nothing is done", x.about(3), 0);
    c.due("nothing is drawn", x.about(4), 77);
    c.due("no ACT", x.about(5), 0);
    int lost = x.lost();
    int found = -1;
    for (int n = 0; n <= 60; n++) {
      for (int t = 0; t < 3; t++) c.due("will(" + t + ", " + n + ")", x.thing(t, 1), will[n][t]);
      if (found == -1 && x.right() == 0) found = n;
      x.day();
    }
    c.due("lost()", lost, found);
    x = Checks.of("room a;room b;thing t in a;");
    c.due("never lost()", x.lost(), -1);
    x = Checks.of("room a;room b;thing t in a was b;");
    c.due("lost() now", x.lost(), 0);
    x = Checks.of("room a;room b;");
    c.due("lost() without THINGS", x.lost(), -1);
    // a memory that first slips behind 59, 60, 61 DAYS
    for (int n = 59; n <= 61; n++) {
      x = Checks.of("room a;room b;thing t in a;sure (day<" + (n - 1) + ")*100;");
      c.due("lost() behind " + n, x.lost(), n > 60 ? -1 : n);
    }
    // slipped and come back: not lost at first, lost later
    x = Checks.of("room a;room b;thing t in a;thing u in a was b;sure 0;");
    c.due("never both lost()", x.lost(), -1);
  }
}
