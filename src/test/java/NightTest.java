/** Promises 42 to 48: HEARD, WALKS, CERTAIN, ASK. */
public final class NightTest {
  private static final Checks c = new Checks("NightTest");
  private static final String LINE = "room a creaks 1;room b creaks 5;room d creaks 9;door a b;door b d;";

  public static void main(String[] args) {
    wrongInputs();
    counting();
    twoTimes();
    asking();
    limits();
    c.finish();
  }

  private static void wrongInputs() {
    SoldHouse x = Checks.of(LINE);
    c.due("heard(8, ..)", x.heard(8, 1, true), -1);
    c.due("heard(-1, ..)", x.heard(-1, 1, true), -1);
    c.due("heard(0, 10)", x.heard(0, 10, true), -1);
    c.due("heard(0, -1)", x.heard(0, -1, true), -1);
    c.due("seen(8, ..)", x.seen(8, 1, true), -1);
    c.due("seen(-1, ..)", x.seen(-1, 1, true), -1);
    c.due("seen(0, 3)", x.seen(0, 3, true), -1);
    c.due("seen(0, -1)", x.seen(0, -1, true), -1);
    c.due("nothing HEARD", x.about(7), 0);
    c.due("untell(0)", x.untell(0), false);
    c.due("untell(-1)", x.untell(-1), false);
    c.due("later(-1)", x.later(-1), -1);
    c.due("later(1001)", x.later(1001), -1);
    c.due("TIME", x.about(8), 0);
    c.due("certain(8, 0)", x.certain(8, 0), -1);
    c.due("certain(-1, 0)", x.certain(-1, 0), -1);
    c.due("ask(2, 0)", x.ask(2, 0), -1);
    c.due("ask(-1, 0)", x.ask(-1, 0), -1);
  }

  private static void counting() {
    SoldHouse x = Checks.of(LINE);
    // walks of n minutes in a line of three: 3, 7, 17, 41, 99, 239, 577, 1393
    c.due("walks(0)", x.walks(0), 1393);
    c.due("certain(0, 0)", x.certain(0, 0), -2);
    c.due("heard(0, 9, true)", x.heard(0, 9, true), 0);
    // from an end: 1, 2, 5, 12, 29, 70, 169, 408
    c.due("walks from d", x.walks(0), 408);
    c.due("certain(0, 0) now", x.certain(0, 0), 2);
    c.due("certain(1, 0)", x.certain(1, 0), -2);
    c.due("heard(1, 5, false)", x.heard(1, 5, false), 1);
    c.due("no walks", x.walks(0), 0);
    c.due("no certain", x.certain(0, 0), -1);
    c.due("no ask(0)", x.ask(0, 0), -1);
    c.due("no ask(1)", x.ask(1, 0), -1);
    c.due("untell(1)", x.untell(1), true);
    c.due("untell(1) again", x.untell(1), false);
    c.due("walks again", x.walks(0), 408);
    c.due("HEARD, all of them", x.about(7), 2);
    c.due("seen(1, 2, false)", x.seen(1, 2, false), 2);
    c.due("certain(1, 0) b", x.certain(1, 0), 1);
    c.due("walks from b", x.walks(0), 239 * 1);
    c.due("seen(7, 0, true)", x.seen(7, 0, true), 3);
    c.due("certain(7, 0)", x.certain(7, 0), 0);
    // creaks at least: 5 counts for 5
    x = Checks.of(LINE);
    x.heard(3, 5, true);
    x.heard(3, 6, false);
    c.due("certain creaks", x.certain(3, 0), 1);
    x = Checks.of(LINE);
    x.heard(3, 0, false);
    c.due("never below 0", x.walks(0), 0);
    x = Checks.of(LINE);
    x.heard(3, 0, true);
    c.due("always 0 at least", x.walks(0), 1393);
    x = Checks.of("room a;");
    c.due("one ROOM", x.walks(0), 1);
    c.due("one ROOM certain", x.certain(7, 0), 0);
    c.due("one ROOM ask(0)", x.ask(0, 0), 0);
    c.due("one ROOM ask(1)", x.ask(1, 0), 1);
    // the most there are: a full house of 5 and more
    x = Checks.of("room a;room b;room c;room d;room e;door a b;door a c;door a d;door a e;door b c;door b d;door b e;door c d;door c e;door d e;");
    c.due("five to the eighth", x.walks(0), 390625);
    c.due("five to the seventh", x.ask(1, 0), 78125);
  }

  private static void twoTimes() {
    SoldHouse x = Checks.of(LINE);
    x.later(10);
    x.seen(0, 2, true);
    x.later(5);
    x.untell(0);
    c.due("TIME", x.about(8), 15);
    c.due("walks(9)", x.walks(9), 1393);
    c.due("walks(10)", x.walks(10), 408);
    c.due("walks(14)", x.walks(14), 408);
    c.due("walks(15)", x.walks(15), 1393);
    c.due("walks(16)", x.walks(16), 1393);
    c.due("walks(-1)", x.walks(-1), 1393);
    c.due("walks(min)", x.walks(Integer.MIN_VALUE), 1393);
    c.due("walks(max)", x.walks(Integer.MAX_VALUE), 1393);
    c.due("certain(0, 12)", x.certain(0, 12), 2);
    c.due("certain(0, 15)", x.certain(0, 15), -2);
    // TOLD and UNTOLD at one TIME: it never counts
    c.due("number 1", x.seen(0, 0, true), 1);
    x.untell(1);
    c.due("walks(15) still", x.walks(15), 1393);
    c.due("later(0)", x.later(0), 15);
    Checks.put(x, LINE);
    x.house();
    c.due("the TIME stays", x.about(8), 15);
    c.due("HEARD goes", x.about(7), 0);
    c.due("number anew", x.seen(0, 0, true), 0);
    c.due("not UNTOLD", x.walks(15), 408);
    c.due("untell anew", x.untell(0), true);
  }

  private static void asking() {
    // a line of three: at minute m room b is in most; the fewest at the most is in the middle or at the ends
    SoldHouse x = Checks.of(LINE);
    int[] walks = {3, 7, 17, 41, 99, 239, 577, 1393};
    c.due("ask(1, 0)", x.ask(1, 0), 577);
    c.due("ask(0, 0)", x.ask(0, 0), 0);
    c.due("as walks from b at minute 0", walks[6], 577);
    x.seen(0, 1, true);
    c.due("from b: walks", x.walks(0), 577);
    c.due("from b: ask(1)", x.ask(1, 0), 239);
    c.due("from b: ask(0)", x.ask(0, 0), 1);
    x.seen(7, 1, true);
    c.due("b to b: ask(0)", x.ask(0, 0) >= 1 && x.ask(0, 0) <= 6, true);
    x = Checks.of("room a;room b;room d;door a b;");
    c.due("two and one: ask(0)", x.ask(0, 0), 0);
    c.due("two and one: ask(1)", x.ask(1, 0), 128);
  }

  private static void limits() {
    SoldHouse x = Checks.of(LINE);
    for (int i = 0; i < 30; i++) c.due("HEARD " + i, i % 2 == 0 ? x.heard(0, 0, true) : x.seen(0, 1, true), i);
    c.due("heard 31", x.heard(0, 0, true), -1);
    c.due("seen 31", x.seen(0, 0, true), -1);
    c.due("untell(30)", x.untell(30), false);
    c.due("untell(29)", x.untell(29), true);
    c.due("UNTOLD, yet there are 30", x.heard(0, 0, true), -1);
    c.due("about(7)", x.about(7), 30);
    x = new SoldHouse();
    for (int i = 1; i <= 100; i++) c.due("later " + i, x.later(1000), i * 1000);
    c.due("later(0) at the end", x.later(0), 100000);
    c.due("later(1) at the end", x.later(1), -1);
    c.due("later(max)", x.later(Integer.MAX_VALUE), -1);
    c.due("TIME at the end", x.about(8), 100000);
    c.due("walks of none", x.walks(0), 0);
    c.due("heard in none", x.heard(7, 9, false), 0);
    c.due("seen in none", x.seen(0, 0, true), -1);
  }
}
