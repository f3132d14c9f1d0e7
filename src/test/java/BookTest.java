/** Promises 46 to 49: entry, join, joined, rivals. */
public final class BookTest {
  public static void main(String[] args) {
    entries();
    sums();
    choosing();
    severalOfOneSum();
    theLatestJoin();
    Check.finish();
  }

  private static NationSchool books(int[][] first, int[][] second) {
    NationSchool x = new NationSchool();
    for (int[] e : first) {
      x.entry(0, e[0], e[1], e[2]);
    }
    for (int[] e : second) {
      x.entry(1, e[0], e[1], e[2]);
    }
    return x;
  }

  private static void entries() {
    NationSchool x = new NationSchool();
    int[][] wrong = {{-1, 0, 0, 0}, {2, 0, 0, 0}, {0, -1, 0, 0}, {0, 1000, 0, 0}, {0, 0, -1, 0},
        {0, 0, 100, 0}, {0, 0, 0, -1}, {0, 0, 0, 10}};
    for (int[] w : wrong) {
      Check.due("entry", x.entry(w[0], w[1], w[2], w[3]), -2);
    }
    for (int i = 1; i <= 7; i++) {
      Check.due("entry", x.entry(1, 999, 99, 9), i);
    }
    Check.due("an eighth", x.entry(1, 0, 0, 0), -3);
    Check.due("an eighth, wrong", x.entry(1, 1000, 0, 0), -2);
    Check.due("of the other", x.entry(0, 0, 0, 0), 1);
    Check.due("count(10)", x.count(10), 1);
    Check.due("count(11)", x.count(11), 7);
  }

  private static int sum(int year, int mark, int land) {
    return books(new int[][] {{100, 5, 5}}, new int[][] {{year, mark, land}}).join();
  }

  private static void sums() {
    Check.due("all alike", sum(100, 5, 5), 12);
    Check.due("a year", sum(101, 5, 5), 11);
    Check.due("three years", sum(97, 5, 5), 9);
    Check.due("four years", sum(104, 5, 5), 8);
    Check.due("many years", sum(500, 5, 5), 8);
    Check.due("mark alone", sum(500, 5, 6), 5);
    Check.due("land alone", sum(500, 6, 5), 0);
    Check.due("land and year", sum(100, 6, 5), 7);
    Check.due("land and 2 of the years", sum(98, 6, 5), 5);
    Check.due("land and 1 of the years", sum(103, 6, 5), 0);
    Check.due("year alone", sum(100, 6, 6), 0);
  }

  private static void choosing() {
    // Line 0 likes both lines, line 1 only the first: 0 has to give way.
    NationSchool x = books(new int[][] {{100, 5, 1}, {500, 5, 2}, {900, 9, 9}},
        new int[][] {{100, 5, 1}, {101, 5, 1}, {900, 8, 8}});
    Check.due("join", x.join(), 12 + 5);
    Check.due("joined(0)", x.joined(0), 0);
    Check.due("joined(1)", x.joined(1), 1);
    Check.due("joined(2)", x.joined(2), -1);
    Check.due("rivals", x.rivals(), 1);
    NationSchool y = books(new int[][] {{100, 5, 1}, {100, 6, 1}},
        new int[][] {{100, 6, 1}, {104, 6, 2}});
    // 7 for (0, 0), 12 for (1, 0), 5 for (1, 1): (0, 0) and (1, 1) come to 12 as well.
    Check.due("join", y.join(), 12);
    Check.due("joined(0)", y.joined(0), 0);
    Check.due("joined(1)", y.joined(1), 1);
    Check.due("rivals", y.rivals(), 2);
  }

  private static void severalOfOneSum() {
    int[][] same = new int[7][];
    java.util.Arrays.fill(same, new int[] {1, 1, 1});
    NationSchool x = books(same, same);
    Check.due("join", x.join(), 84);
    Check.due("rivals", x.rivals(), 5040);
    for (int i = 0; i < 7; i++) {
      Check.due("joined", x.joined(i), i);
    }
    NationSchool y = books(new int[][] {{1, 1, 1}, {1, 1, 1}, {1, 1, 1}}, new int[][] {{1, 1, 1}});
    Check.due("join", y.join(), 12);
    Check.due("rivals", y.rivals(), 3);
    Check.due("none last", y.joined(0), 0);
    Check.due("joined(1)", y.joined(1), -1);
    NationSchool z = books(new int[][] {{1, 1, 1}}, new int[][] {{900, 2, 2}, {1, 1, 1}, {1, 1, 1}});
    z.join();
    Check.due("rivals", z.rivals(), 2);
    Check.due("the lesser line", z.joined(0), 1);
  }

  private static void theLatestJoin() {
    NationSchool x = new NationSchool();
    Check.due("ahead of any", x.rivals(), 0);
    Check.due("ahead of any", x.joined(0), -1);
    Check.due("empty", x.join(), 0);
    Check.due("empty", x.rivals(), 1);
    x.entry(0, 1, 1, 1);
    x.entry(1, 1, 1, 1);
    Check.due("not yet", x.joined(0), -1);
    NationSchool y = books(new int[][] {{1, 1, 1}}, new int[][] {{1, 1, 1}});
    Check.due("lines, but ahead of any", y.joined(0), -1);
    y.keep(0);
    y.entry(0, 1, 1, 1);
    y.entry(0, 1, 1, 1);
    y.entry(1, 1, 1, 1);
    Check.due("join", y.join(), 24);
    Check.due("joined(1)", y.joined(1), 1);
    y.back(0);
    Check.due("found, though the line is gone", y.joined(1), 1);
    Check.due("a line that is none last", y.joined(2), -1);
    Check.due("join of fewer", y.join(), 12);
    Check.due("not by the latest", y.joined(1), -1);
    Check.due("rivals", y.rivals(), 1);
    y.entry(0, 1, 1, 1);
    y.entry(1, 1, 1, 1);
    Check.due("a line behind the latest", y.joined(1), -1);
    Check.due("join", x.join(), 12);
    x.entry(1, 1, 1, 1);
    Check.due("of the latest", x.rivals(), 1);
    Check.due("join", x.join(), 12);
    Check.due("rivals", x.rivals(), 2);
    Check.due("joined(1)", x.joined(1), -1);
    Check.due("joined(-1)", x.joined(-1), -1);
    Check.due("joined(7)", x.joined(7), -1);
  }
}
