/** What the tests share: counting wrong answers, and feeding texts. */
final class Checks {
  private final String name;
  private int asked;
  private int wrong;
  private String sentence = "";

  Checks(String name) {
    this.name = name;
  }

  /** Which words of a promise the answers below are about; QuotesTest looks whether they stand in the document. */
  void promise(int number, String words) {
    sentence = "promise " + number + " [" + words + "] ";
  }

  /** Likewise, for words under 'Terms'. */
  void term(String words) {
    sentence = "terms [" + words + "] ";
  }

  void due(String call, long got, long want) {
    asked++;
    if (got != want) wrong(call + " answered " + got + ", due is " + want);
  }

  private void wrong(String what) {
    wrong++;
    if (wrong <= 40) System.out.println(name + ": " + sentence + what);
  }

  /** Two lists of answers that must be the same, called by what was asked. */
  void same(String call, java.util.List<String> got, java.util.List<String> want) {
    asked++;
    for (int i = 0; i < Math.max(got.size(), want.size()); i++) {
      String one = i < got.size() ? got.get(i) : "nothing";
      String other = i < want.size() ? want.get(i) : "nothing";
      if (!one.equals(other)) {
        wrong(call + " left " + one + ", due is " + other);
        return;
      }
    }
  }

  void due(String call, boolean got, boolean want) {
    due(call, got ? 1 : 0, want ? 1 : 0);
  }

  /** What lies there, all of it and nothing behind it. */
  void lie(String call, SoldHouse x, int... want) {
    due(call + " about(11)", x.about(11), want.length);
    due(call + " lies(-1)", x.lies(-1), -1);
    for (int i = 0; i < want.length; i++) due(call + " lies(" + i + ")", x.lies(i), want[i]);
    due(call + " lies behind the last", x.lies(want.length), -1);
  }

  /** Ends the test: exit code 1 if an answer was wrong. */
  void finish() {
    System.out.println(name + ": " + asked + " answers, " + wrong + " wrong");
    if (wrong != 0 || asked == 0) System.exit(1);
  }

  /** Puts a text of chars 0 to 255 on the TAPE behind what is there. */
  static void put(SoldHouse x, String text) {
    int before = x.about(9);
    StringBuilder padded = new StringBuilder(text);
    while (padded.length() % 20 != 0) padded.append(' ');
    for (int i = 0; i < padded.length(); i += 20) {
      x.feed(four(padded, i), four(padded, i + 4), four(padded, i + 8), four(padded, i + 12), four(padded, i + 16));
    }
    x.end(before + text.length());
  }

  private static int four(CharSequence s, int i) {
    return s.charAt(i) << 24 | s.charAt(i + 1) << 16 | s.charAt(i + 2) << 8 | s.charAt(i + 3);
  }

  /** A new object with a HOUSE that has no FAULT. */
  static SoldHouse of(String text) {
    SoldHouse x = new SoldHouse();
    put(x, text);
    if (x.house() == -1) throw new IllegalStateException("FAULT " + x.fault(0) + " at " + x.fault(1) + " in " + text);
    return x;
  }
}
