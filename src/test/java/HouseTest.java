/** Promises 6 to 9, 17 to 29 and 41: what is asked of ROOMS and DOORS. */
public final class HouseTest {
  private static final Checks c = new Checks("HouseTest");

  /** A square a b d c, with e behind d, and f by itself. */
  private static final String SQUARE = "room a creaks 1;room b creaks 9;room c creaks 2;room d creaks 1;room e;room f creaks 3;"
      + "door a b;door b d;door a c;door c d;door e d;"
      + "thing x in a was d;thing y in d was d ours;thing z in d was f;";
  /** A line a b c d e, with a twig f at c. */
  private static final String TREE = "room a;room b;room c;room d;room e;room f;"
      + "door a b;door b c;door c d;door d e;door f c;";

  public static void main(String[] args) {
    roomsAndDoors();
    waysOfAll();
    hunts();
    meetsAndBars();
    tours();
    whole();
    c.finish();
  }

  private static void roomsAndDoors() {
    SoldHouse x = Checks.of(SQUARE);
    int[][] rooms = {{1, 6, 1, 0}, {9, 9, 0, 0}, {2, 9, 0, 0}, {1, 22, 6, 3}, {0, 8, 0, 0}, {3, 0, 0, 4}};
    for (int r = 0; r < 6; r++) {
      for (int what = 0; what < 4; what++) c.due("room(" + r + ", " + what + ")", x.room(r, what), rooms[r][what]);
    }
    c.due("room(6, 0)", x.room(6, 0), -1);
    c.due("room(-1, 0)", x.room(-1, 0), -1);
    c.due("room(0, 4)", x.room(0, 4), -1);
    c.due("room(0, -1)", x.room(0, -1), -1);
    int[][] doors = {{0, 1, 0, 31}, {1, 3, 0, 31}, {0, 2, 0, 31}, {2, 3, 0, 31}, {4, 3, 1, 16}};
    for (int d = 0; d < 5; d++) {
      for (int what = 0; what < 4; what++) c.due("door(" + d + ", " + what + ")", x.door(d, what), doors[d][what]);
    }
    c.due("door(5, 0)", x.door(5, 0), -1);
    c.due("door(-1, 0)", x.door(-1, 0), -1);
    c.due("door(0, 4)", x.door(0, 4), -1);
    c.due("door(0, -1)", x.door(0, -1), -1);
    c.due("thing(3, 0)", x.thing(3, 0), -2);
    c.due("thing(-1, 0)", x.thing(-1, 0), -2);
    c.due("thing(0, 8)", x.thing(0, 8), -2);
    c.due("thing(0, -1)", x.thing(0, -1), -2);
    c.due("far(0, 0)", x.far(0, 0), 0);
    c.due("far(0, 4)", x.far(0, 4), 3);
    c.due("far(4, 0)", x.far(4, 0), 3);
    c.due("far(0, 5)", x.far(0, 5), -1);
    c.due("far(0, 6)", x.far(0, 6), -1);
    c.due("far(-1, 0)", x.far(-1, 0), -1);
    c.due("far(min, max)", x.far(Integer.MIN_VALUE, Integer.MAX_VALUE), -1);
  }

  private static void waysOfAll() {
    SoldHouse x = Checks.of(SQUARE);
    c.due("way(0, 3)", x.way(0, 3), 2);
    c.lie("way(0, 3)", x, 0, 1, 3);
    c.due("way(4, 0)", x.way(4, 0), 3);
    c.lie("way(4, 0)", x, 4, 3, 1, 0);
    c.due("way(5, 5)", x.way(5, 5), 0);
    c.lie("way(5, 5)", x, 5);
    c.due("way(5, 0)", x.way(5, 0), -1);
    c.lie("way(5, 0)", x);
    x.way(0, 3);
    c.due("way(0, 6)", x.way(0, 6), -1);
    c.lie("way(0, 6)", x);
    c.due("quiet(0, 3)", x.quiet(0, 3), 3);
    c.lie("quiet(0, 3)", x, 0, 2, 3);
    c.due("quiet(1, 1)", x.quiet(1, 1), 0);
    c.lie("quiet(1, 1)", x, 1);
    c.due("quiet(0, 1)", x.quiet(0, 1), 9);
    c.lie("quiet(0, 1)", x, 0, 1);
    c.due("quiet(0, 5)", x.quiet(0, 5), -1);
    c.lie("quiet(0, 5)", x);
    x.way(0, 3);
    c.due("quiet(-1, 0)", x.quiet(-1, 0), -1);
    c.lie("quiet(-1, 0)", x);
    c.due("ways(0, 3)", x.ways(0, 3), 2);
    c.due("ways(4, 0)", x.ways(4, 0), 2);
    c.due("ways(0, 1)", x.ways(0, 1), 1);
    c.due("ways(5, 5)", x.ways(5, 5), 1);
    c.due("ways(0, 5)", x.ways(0, 5), -1);
    c.due("ways(6, 0)", x.ways(6, 0), -1);
    // like creaks: the fewest DOORS, then the first
    x = Checks.of("room a;room b;room c;room d;room e;door a b;door b e;door a c;door c e;door a d;door e a;");
    c.due("quiet(0, 4)", x.quiet(0, 4), 0);
    c.lie("quiet(0, 4)", x, 0, 4);
    c.due("quiet(3, 1)", x.quiet(3, 1), 0);
    c.lie("quiet(3, 1)", x, 3, 0, 1);
    c.due("quiet(1, 2)", x.quiet(1, 2), 0);
    c.lie("quiet(1, 2)", x, 1, 0, 2);
    // a longer way that is more quiet
    x = Checks.of("room a;room b creaks 5;room c creaks 1;room d creaks 1;room e creaks 1;room f;"
        + "door a b;door b f;door a c;door c d;door d e;door e f;");
    c.due("quiet(0, 5)", x.quiet(0, 5), 3);
    c.lie("quiet(0, 5)", x, 0, 2, 3, 4, 5);
    c.due("way(0, 5)", x.way(0, 5), 2);
    c.lie("way(0, 5)", x, 0, 1, 5);
  }

  private static void hunts() {
    SoldHouse x = Checks.of(TREE);
    c.due("parts()", x.parts(), 31);
    c.due("hunt(63)", x.hunt(63), 3);
    // a|b, ab|rest, abcf|de, abcdf|e: of like ones the first that leaves 2 asks on both sides
    c.due("first(63)", x.first(63), 1);
    c.due("hunt(3)", x.hunt(3), 1);
    c.due("first(3)", x.first(3), 0);
    c.due("hunt(17)", x.hunt(17), 1);
    c.due("first(17)", x.first(17), 0);
    c.due("hunt(48)", x.hunt(48), 1);
    c.due("first(48)", x.first(48), 2);
    c.due("hunt(32)", x.hunt(32), 0);
    c.due("first(32)", x.first(32), -1);
    c.due("hunt(0)", x.hunt(0), -1);
    c.due("first(0)", x.first(0), -1);
    c.due("hunt(64)", x.hunt(64), -1);
    c.due("first(64)", x.first(64), -1);
    c.due("hunt(65)", x.hunt(65), -1);
    c.due("hunt(-1)", x.hunt(-1), -1);
    c.due("first(-1)", x.first(-1), -1);
    x = Checks.of(SQUARE);
    c.due("square hunt(3)", x.hunt(3), -1);
    c.due("square first(3)", x.first(3), -1);
    c.due("square hunt(17)", x.hunt(17), 1);
    c.due("square first(17)", x.first(17), 4);
    c.due("square hunt(48)", x.hunt(48), 1);
    c.due("square hunt(33)", x.hunt(33), -1);
    c.due("square hunt(49)", x.hunt(49), -1);
  }

  private static void meetsAndBars() {
    SoldHouse x = Checks.of(SQUARE);
    c.due("meet(0, 3, 0)", x.meet(0, 3, 0), 1);
    c.due("meet(0, 3, 1)", x.meet(0, 3, 1), 1);
    c.due("meet(3, 0, 1)", x.meet(3, 0, 1), 1);
    c.due("meet(0, 4, 0)", x.meet(0, 4, 0), 2);
    c.due("meet(0, 4, 1)", x.meet(0, 4, 1), 1);
    c.due("meet(2, 2, 0)", x.meet(2, 2, 0), 0);
    c.due("meet(2, 2, 1)", x.meet(2, 2, 1), 2);
    c.due("meet(3, 2, 0)", x.meet(3, 2, 0), 1);
    c.due("meet(3, 2, 1)", x.meet(3, 2, 1), 2);
    c.due("meet(0, 5, 0)", x.meet(0, 5, 0), -1);
    c.due("meet(0, 5, 1)", x.meet(0, 5, 1), -1);
    c.due("meet(0, 6, 0)", x.meet(0, 6, 0), -1);
    c.due("meet(-1, 0, 0)", x.meet(-1, 0, 0), -1);
    c.due("meet(0, 3, 2)", x.meet(0, 3, 2), -1);
    c.due("meet(0, 3, -1)", x.meet(0, 3, -1), -1);
    c.due("bar(0, 3, 0)", x.bar(0, 3, 0), 2);
    c.due("bar(0, 3, 1)", x.bar(0, 3, 1), 6);
    c.due("bar(0, 4, 0)", x.bar(0, 4, 0), 1);
    c.due("bar(0, 4, 1)", x.bar(0, 4, 1), 8);
    c.due("bar(0, 5, 0)", x.bar(0, 5, 0), 0);
    c.due("bar(0, 5, 1)", x.bar(0, 5, 1), 0);
    c.due("bar(0, 1, 0)", x.bar(0, 1, 0), -1);
    c.due("bar(2, 2, 0)", x.bar(2, 2, 0), -1);
    c.due("bar(2, 2, 1)", x.bar(2, 2, 1), -1);
    c.due("bar(0, 6, 0)", x.bar(0, 6, 0), -1);
    c.due("bar(0, 3, 2)", x.bar(0, 3, 2), -1);
    c.due("bar(0, 3, -1)", x.bar(0, 3, -1), -1);
    // three, and four, between a and b
    x = Checks.of("room a;room b;room c;room d;room e;room f;door a c;door a d;door a e;door b c;door b d;door b e;");
    c.due("three bar", x.bar(0, 1, 0), 3);
    c.due("three bar which", x.bar(0, 1, 1), 28);
    x = Checks.of("room a;room b;room c;room d;room e;room f;door a c;door a d;door a e;door a f;door b c;door b d;door b e;door b f;");
    c.due("four bar", x.bar(0, 1, 0), -1);
    c.due("four bar which", x.bar(0, 1, 1), -1);
    // of like ones the least set: in a line c, not e
    x = Checks.of("room a;room b;room c;room e;door a c;door c e;door e b;");
    c.due("line bar", x.bar(0, 1, 1), 4);
  }

  private static void tours() {
    SoldHouse x = Checks.of(TREE);
    c.due("tour(0, 63)", x.tour(0, 63), 6);
    c.lie("tour(0, 63)", x, 0, 1, 2, 5, 3, 4);
    c.due("tour(2, 17)", x.tour(2, 17), 6);
    c.lie("tour(2, 17)", x, 0, 4);
    // to come to its own ROOM later costs no more: of like ones the first
    c.due("tour(1, 7)", x.tour(1, 7), 3);
    c.lie("tour(1, 7)", x, 0, 1, 2);
    c.due("tour(1, 0)", x.tour(1, 0), 0);
    c.lie("tour(1, 0)", x);
    c.due("tour(3, 8)", x.tour(3, 8), 0);
    c.lie("tour(3, 8)", x, 3);
    c.due("tour(0, 64)", x.tour(0, 64), -1);
    c.lie("tour(0, 64)", x);
    x.tour(3, 8);
    c.due("tour(6, 1)", x.tour(6, 1), -1);
    c.lie("tour(6, 1)", x);
    x.tour(3, 8);
    c.due("tour(0, -1)", x.tour(0, -1), -1);
    c.lie("tour(0, -1)", x);
    x = Checks.of(SQUARE);
    c.due("square tour(0, 32)", x.tour(0, 32), -1);
    c.lie("square tour(0, 32)", x);
    c.due("square tour(5, 32)", x.tour(5, 32), 0);
    c.lie("square tour(5, 32)", x, 5);
    c.due("square tour(0, 22)", x.tour(0, 22), 5);
    c.lie("square tour(0, 22)", x, 1, 2, 4);
    c.due("square tour(0, 31)", x.tour(0, 31), 5);
    c.lie("square tour(0, 31)", x, 0, 1, 2, 3, 4);
    x.house();
    c.lie("behind a house", x);
  }

  private static void whole() {
    SoldHouse x = Checks.of(SQUARE);
    c.due("pieces()", x.pieces(), 2);
    c.due("parts()", x.parts(), 16);
    c.due("centre()", x.centre(), 5);
    c.due("nooks()", x.nooks(), 48);
    int[] echo = {1, 12, 13, 13, 13, 13, 13, 13, 13};
    for (int far = 0; far <= 8; far++) c.due("echo(0, " + far + ")", x.echo(0, far), echo[far]);
    c.due("echo(5, 8)", x.echo(5, 8), 3);
    c.due("echo(0, 9)", x.echo(0, 9), -1);
    c.due("echo(0, -1)", x.echo(0, -1), -1);
    c.due("echo(6, 0)", x.echo(6, 0), -1);
    c.due("echo(-1, 0)", x.echo(-1, 0), -1);
    x = Checks.of(TREE);
    c.due("tree pieces()", x.pieces(), 1);
    c.due("tree centre()", x.centre(), 2);
    c.due("tree nooks()", x.nooks(), 49);
    x = Checks.of("room a;room b;room c;room d;door a b;door b c;door c d;");
    c.due("line centre()", x.centre(), 1);
    x = Checks.of("room a;");
    c.due("alone centre()", x.centre(), 0);
    c.due("alone pieces()", x.pieces(), 1);
    c.due("alone nooks()", x.nooks(), 1);
    c.due("alone parts()", x.parts(), 0);
  }
}
