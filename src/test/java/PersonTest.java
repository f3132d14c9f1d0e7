/** Promises 13, 15 to 19: oath, leave, personOf, of, heads, sorted. (14, oaths: SlotTest.) */
public final class PersonTest {
  private static final int NOTHING = -2000000000;

  public static void main(String[] args) {
    oaths();
    eachHasItsOwn();
    leaving();
    nationsOfPersons();
    headsOnDays();
    sortedByAnother();
    Check.finish();
  }

  private static void oaths() {
    NationSchool x = new NationSchool();
    Check.due("no village", x.oath(0, 0), -2);
    x.village(1, 1, 1);
    x.village(2, 2, 2);
    Check.due("no village", x.oath(2, 0), -2);
    Check.due("no village", x.oath(-1, 0), -2);
    Check.due("no rank", x.oath(0, -1), -2);
    Check.due("no rank", x.oath(0, 4), -2);
    x.next(9);
    for (int i = 0; i < 80; i++) {
      Check.due("oath", x.oath(i % 2, i % 4), i);
    }
    Check.due("an 81st", x.oath(0, 0), -3);
    Check.due("an 81st, wrong", x.oath(0, 4), -2);
    Check.due("village", x.personOf(79, 0), 1);
    Check.due("rank", x.personOf(79, 1), 3);
    Check.due("day", x.personOf(79, 2), 9);
    Check.due("left", x.personOf(79, 3), -1);
    int[][] wrong = {{80, 0}, {-1, 0}, {0, 4}, {0, -1}};
    for (int[] w : wrong) {
      Check.due("personOf", x.personOf(w[0], w[1]), NOTHING);
    }
    Check.due("count(2)", x.count(2), 80);
  }

  private static void eachHasItsOwn() {
    NationSchool x = new NationSchool();
    x.village(1, 1, 1);
    x.village(2, 2, 2);
    for (int p = 0; p < 4; p++) {
      x.oath(p % 2, 3 - p);
      x.next(5);
    }
    x.leave(2);
    x.next(1);
    x.leave(1);
    int[][] due = {{0, 3, 0, -1}, {1, 2, 5, 21}, {0, 1, 10, 20}, {1, 0, 15, -1}};
    for (int p = 0; p < 4; p++) {
      for (int what = 0; what < 4; what++) {
        Check.due("personOf(" + p + ", " + what + ")", x.personOf(p, what), due[p][what]);
      }
    }
  }

  private static void leaving() {
    NationSchool x = new NationSchool();
    x.village(1, 1, 1);
    x.oath(0, 0);
    x.oath(0, 0);
    Check.due("none such", x.leave(2), -2);
    Check.due("none such", x.leave(-1), -2);
    x.next(3);
    Check.due("leave", x.leave(1), 0);
    Check.due("gone", x.leave(1), -2);
    x.next(1);
    Check.due("gone", x.leave(1), -2);
    Check.due("left on", x.personOf(1, 3), 3);
    Check.due("the other stays", x.personOf(0, 3), -1);
    Check.due("there up to the day ahead", x.heads(-1, 2, 4), 2);
    Check.due("not that day", x.heads(-1, 3, 4), 1);
    Check.due("persons are as they are now", x.heads(-1, 3, 0), 1);
    x.oath(0, 0);
    x.leave(2);
    Check.due("never there", x.heads(-1, 4, 4), 1);
  }

  private static void nationsOfPersons() {
    NationSchool x = new NationSchool();
    x.village(1, 1, 1);
    x.oath(0, 0);
    Check.due("no statute", x.of(0, 0), -1);
    Check.due("none such", x.of(1, 0), -2);
    Check.due("none such", x.of(-1, 0), -2);
    Check.due("no day", x.of(0, -1), -2);
    Check.due("no day", x.of(0, 3600), -2);
    x.next(10);
    Check.statute(x, "nation 0 if land=1; nation 2 if land=2;");
    x.oath(0, 0);
    Check.due("by what was in force that day", x.of(0, 10), -1);
    Check.due("of(1)", x.of(1, 10), 0);
    Check.due("as known ahead of it", x.of(1, 9), -1);
    x.moved(0, 2);
    Check.due("a word of the oath's day", x.of(1, 10), 2);
    x.next(1);
    x.moved(0, 1);
    Check.statute(x, "nation 3;");
    Check.due("later words don't count", x.of(1, 3599), 2);
    x.oath(0, 0);
    Check.due("of(2)", x.of(2, 11), 3);
    Check.due("as known ahead of its oath", x.of(2, 10), 2);
    Check.due("as known ahead of all", x.of(2, 0), -1);
  }

  private static void headsOnDays() {
    NationSchool x = new NationSchool();
    Check.statute(x, "nation 0 if land=0; nation 1 if land=1;");
    for (int land = 0; land < 3; land++) {
      x.village(0, 0, land);
    }
    x.oath(0, 0);
    x.oath(1, 0);
    x.oath(1, 0);
    x.oath(2, 0);
    x.next(100);
    x.oath(1, 0);
    x.leave(0);
    Check.due("heads(0)", x.heads(0, 99, 100), 1);
    Check.due("heads(0)", x.heads(0, 100, 100), 0);
    Check.due("heads(1)", x.heads(1, 99, 100), 2);
    Check.due("heads(1)", x.heads(1, 100, 100), 3);
    Check.due("heads(1)", x.heads(1, 3599, 0), 3);
    Check.due("heads(NONE)", x.heads(-1, 100, 100), 1);
    Check.due("heads(2)", x.heads(2, 100, 100), 0);
    int[][] wrong = {{-2, 0, 0}, {4, 0, 0}, {0, -1, 0}, {0, 3600, 0}, {0, 0, -1}, {0, 0, 3600}};
    for (int[] w : wrong) {
      Check.due("heads", x.heads(w[0], w[1], w[2]), -2);
    }
  }

  private static void sortedByAnother() {
    NationSchool x = new NationSchool();
    x.village(0, 0, 0);
    x.village(0, 0, 1);
    x.oath(0, 0);
    x.oath(1, 0);
    x.oath(1, 0);
    x.next(5);
    x.moved(1, 0);
    x.oath(1, 0);
    x.leave(2);
    Check.statute(x, "nation 0 if land=0; nation 3;");
    Check.due("statute 0, nation 0", x.sorted(0, 0, 5), 2);
    Check.due("statute 0, nation 3", x.sorted(3, 0, 5), 1);
    Check.due("the day ahead", x.sorted(3, 0, 4), 2);
    Check.due("the day ahead", x.sorted(0, 0, 4), 1);
    x.call();
    x.vote(0, 0, true);
    x.close(0);
    Check.due("passed", Check.statute(x, "nation 2;", 0), 1);
    Check.due("statute 1", x.sorted(2, 1, 5), 3);
    x.undo(0);
    Check.due("void or not", x.sorted(2, 1, 5), 3);
    int[][] wrong = {{-1, 0, 0}, {4, 0, 0}, {0, -1, 0}, {0, 2, 0}, {0, 0, -1}, {0, 0, 3600}};
    for (int[] w : wrong) {
      Check.due("sorted", x.sorted(w[0], w[1], w[2]), -2);
    }
    x.moved(0, 7);
    x.oath(0, 0);
    Check.due("a word of today", x.sorted(3, 0, 5), 2);
  }
}
