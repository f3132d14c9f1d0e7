/** Promises 14 and 54 to 56: oaths, row, write, paste. */
public final class SlotTest {
  public static void main(String[] args) {
    rows();
    writing();
    widths();
    pasting();
    pastingOntoItself();
    pastingAmongAll();
    oathsFromARow();
    oathsUpToEighty();
    Check.finish();
  }

  private static NationSchool school(int villages) {
    NationSchool x = new NationSchool();
    for (int i = 0; i < villages; i++) {
      x.village(i, i, 0);
    }
    return x;
  }

  /** The VILLAGES that the row of a SLOT has, each with a RANK behind it, read by its oaths. */
  private static String read(NationSchool x, int slot) {
    x.keep(2);
    int from = x.count(2);
    int n = x.oaths(slot);
    StringBuilder all = new StringBuilder();
    for (int p = from; p < from + n; p++) {
      all.append(x.personOf(p, 0)).append(' ').append(x.personOf(p, 1)).append(' ');
    }
    x.back(2);
    return all.toString();
  }

  private static void write(NationSchool x, int slot, long... numbers) {
    for (int i = 0; i < numbers.length; i++) {
      Check.due("write", x.write(slot, i, numbers[i]), 0);
    }
  }

  private static void rows() {
    NationSchool x = school(1);
    int[][] wrong = {{-1, 0, 1}, {4, 0, 1}, {0, -1, 1}, {0, 4, 1}, {0, 0, 61},
        {0, 0, Integer.MAX_VALUE}, {4, 0, -1}, {0, 4, -1}};
    for (int[] w : wrong) {
      Check.due("row", x.row(w[0], w[1], w[2]), -2);
    }
    Check.due("below 0", x.row(0, 0, -1), -3);
    Check.due("below 0", x.row(0, 3, Integer.MIN_VALUE), -3);
    Check.due("no row yet", x.count(12), 0);
    Check.due("row", x.row(0, 0, 60), 0);
    Check.due("row of none", x.row(3, 3, 0), 0);
    Check.due("count(12)", x.count(12), 2);
    Check.due("all 0", x.oaths(0), 30);
    Check.due("none", x.oaths(3), 0);
    Check.due("the slot stays", x.row(0, 0, -1), -3);
    Check.due("the slot stays", x.row(0, 0, 61), -2);
    Check.due("it has 60", x.write(0, 59, 1), 0);
    Check.due("in its place", x.row(0, 1, 2), 0);
    Check.due("it has 2", x.write(0, 2, 1), -7);
    x.write(0, 0, 9);
    x.write(0, 1, 3);
    x.row(0, 1, 2);
    Check.that("all 0 again", read(x, 0).equals("0 0 "));
    Check.due("count(12)", x.count(12), 2);
  }

  private static void writing() {
    NationSchool x = school(1);
    Check.due("no slot", x.write(-1, 0, 0), -2);
    Check.due("no slot", x.write(4, 0, 0), -2);
    Check.due("nothing", x.write(1, 0, 0), -6);
    Check.due("nothing", x.write(1, -1, 0), -6);
    x.row(1, 2, 3);
    Check.due("no number", x.write(1, 3, 0), -7);
    Check.due("no number", x.write(1, -1, 0), -7);
    Check.due("no number", x.write(1, Integer.MAX_VALUE, 0), -7);
    Check.due("write", x.write(1, 2, Long.MIN_VALUE), 0);
    x.row(2, 0, 0);
    Check.due("no number", x.write(2, 0, 0), -7);
  }

  private static void widths() {
    NationSchool x = school(3);
    for (int width = 0; width < 3; width++) {
      long beyond = 1L << (8 << width);
      x.row(0, width, 2);
      write(x, 0, beyond + 2, beyond * 5 + 3);
      Check.that("cut to width " + width, read(x, 0).equals("2 3 "));
      write(x, 0, beyond / 2, 0);
      Check.due("half as much is not cut", x.oaths(0), 0);
      write(x, 0, beyond - 1, 0);
      Check.due("all bits are no village", x.oaths(0), 0);
    }
    x.row(0, 3, 2);
    write(x, 0, (1L << 32) + 1, 0);
    Check.due("8 bytes are not cut", x.oaths(0), 0);
    write(x, 0, 1, 1L << 32);
    Check.due("8 bytes are not cut", x.oaths(0), 0);
    write(x, 0, 1, 1);
    Check.that("8 bytes", read(x, 0).equals("1 1 "));
  }

  private static void pasting() {
    NationSchool x = school(10);
    x.row(0, 1, 6);
    x.row(1, 1, 4);
    x.row(2, 0, 6);
    write(x, 0, 5, 1, 6, 2, 7, 3);
    Check.due("no slot", x.paste(-1, 0, 1, 0, 1), -2);
    Check.due("no slot", x.paste(0, 0, 4, 0, 1), -2);
    Check.due("nothing", x.paste(0, 0, 3, 0, 1), -6);
    Check.due("nothing", x.paste(3, 0, 0, 0, 1), -6);
    Check.due("no slot goes first", x.paste(3, 0, 4, 0, 1), -2);
    Check.due("not of one width", x.paste(0, 0, 2, 0, 1), -8);
    Check.due("width goes first", x.paste(0, -1, 2, 0, 1), -8);
    int big = Integer.MAX_VALUE;
    int[][] beyond = {{-1, 0, 1}, {0, -1, 1}, {0, 0, -1}, {0, 0, 5}, {3, 0, 4}, {0, 1, 4}, {6, 0, 1},
        {0, 4, 1}, {big, 0, 1}, {0, big, 1}, {1, 1, big}, {big, 0, big}, {-1, 0, 0}, {0, -1, 0}};
    for (int[] b : beyond) {
      Check.due("beyond", x.paste(0, b[0], 1, b[1], b[2]), -7);
    }
    Check.that("nothing happened", read(x, 1).equals("0 0 0 0 "));
    Check.due("none", x.paste(0, 6, 1, 4, 0), 0);
    Check.due("paste", x.paste(0, 2, 1, 0, 4), 0);
    Check.that("they are there", read(x, 1).equals("6 2 7 3 "));
    Check.due("paste", x.paste(0, 0, 1, 2, 1), 0);
    Check.that("one is there", read(x, 1).equals("6 2 5 3 "));
    Check.that("the other stays", read(x, 0).equals("5 1 6 2 7 3 "));
  }

  private static void pastingOntoItself() {
    NationSchool x = school(4);
    x.row(0, 3, 6);
    write(x, 0, 0, 1, 2, 3, 0, 0);
    Check.due("onwards", x.paste(0, 0, 0, 2, 4), 0);
    Check.that("as they were", read(x, 0).equals("0 1 0 1 2 3 "));
    write(x, 0, 0, 1, 2, 3, 1, 2);
    Check.due("backwards", x.paste(0, 2, 0, 0, 4), 0);
    Check.that("as they were", read(x, 0).equals("2 3 1 2 1 2 "));
  }

  private static void pastingAmongAll() {
    for (int from = 0; from < 4; from++) {
      for (int to = 0; to < 4; to++) {
        NationSchool x = school(9);
        for (int slot = 0; slot < 4; slot++) {
          x.row(slot, 0, 2 + 2 * slot);
          write(x, slot, 1 + slot, slot % 4);
        }
        int most = 2 + 2 * Math.min(from, to);
        String call = "paste from " + from + " to " + to;
        Check.due(call + ", one too many", x.paste(from, 0, to, 0, most + 1), -7);
        Check.due(call, x.paste(from, 0, to, 0, most), 0);
        Check.that(call, read(x, to).startsWith((1 + from) + " " + from + " "));
        Check.that(call + ", they stay", read(x, from).startsWith((1 + from) + " " + from + " "));
      }
    }
  }

  private static void oathsFromARow() {
    NationSchool x = school(3);
    Check.due("no slot", x.oaths(-1), -2);
    Check.due("no slot", x.oaths(4), -2);
    Check.due("nothing", x.oaths(2), -6);
    x.next(6);
    x.row(2, 0, 7);
    write(x, 2, 0, 3, 2, 0, 1, 2, 1);
    Check.due("the last is not whole", x.oaths(2), 3);
    Check.due("count(2)", x.count(2), 3);
    Check.due("day", x.personOf(1, 2), 6);
    long[][] refused = {{3, 0}, {-1, 0}, {0, 4}, {0, -1}};
    for (long[] r : refused) {
      write(x, 2, 2, 2, r[0], r[1], 1, 1);
      Check.due("up to the first refused", x.oaths(2), 1);
    }
  }

  private static void oathsUpToEighty() {
    NationSchool x = school(1);
    x.row(0, 0, 60);
    Check.due("30", x.oaths(0), 30);
    Check.due("60", x.oaths(0), 30);
    Check.due("80", x.oaths(0), 20);
    Check.due("no more", x.oaths(0), 0);
    Check.due("count(2)", x.count(2), 80);
  }
}
