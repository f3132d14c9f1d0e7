/** Promises 5, 6, 9, 10, 11, 12: village, moved, force, claims, nation, sways. */
public final class VillageTest {
  public static void main(String[] args) {
    villages();
    words();
    inForce();
    conds();
    claimsAndTheFirst();
    sixteenLinesOfThree();
    landsAsKnown();
    sways();
    Check.finish();
  }

  private static void villages() {
    NationSchool x = new NationSchool();
    int[][] wrong = {{-1, 0, 0}, {100, 0, 0}, {0, -1, 0}, {0, 100, 0}, {0, 0, -1}, {0, 0, 10}};
    for (int[] w : wrong) {
      Check.due("village", x.village(w[0], w[1], w[2]), -2);
    }
    for (int i = 0; i < 40; i++) {
      Check.due("village", x.village(99 - i, i, i % 10), i);
    }
    Check.due("a 41st", x.village(0, 0, 0), -3);
    Check.due("a 41st, wrong", x.village(0, 0, 10), -2);
    Check.due("count(1)", x.count(1), 40);
  }

  private static void words() {
    NationSchool x = new NationSchool();
    Check.due("no village", x.moved(0, 0), -2);
    x.village(1, 1, 1);
    Check.due("no village", x.moved(1, 0), -2);
    Check.due("no village", x.moved(-1, 0), -2);
    Check.due("no land", x.moved(0, 10), -2);
    Check.due("no land", x.moved(0, -1), -2);
    for (int i = 0; i < 40; i++) {
      Check.due("moved", x.moved(0, i % 10), 0);
    }
    Check.due("a 41st word", x.moved(0, 1), -3);
    Check.due("a 41st word, wrong", x.moved(1, 1), -2);
  }

  private static void inForce() {
    NationSchool x = new NationSchool();
    Check.due("none", x.force(0, 0), -1);
    Check.due("none", x.force(3599, 3599), -1);
    int[][] wrong = {{-1, 0}, {0, -1}, {3600, 0}, {0, 3600}};
    for (int[] w : wrong) {
      Check.due("force", x.force(w[0], w[1]), -2);
    }
    x.next(5);
    Check.statute(x, "turn 1;");
    Check.due("the day ahead", x.force(4, 3599), -1);
    Check.due("known the day ahead", x.force(3599, 4), -1);
    Check.due("that day", x.force(5, 5), 0);
    Check.statute(x, "turn 2;");
    Check.due("the last of that day", x.force(5, 5), 1);
    x.next(10);
    Check.statute(x, "turn 3;");
    Check.due("of the day", x.force(15, 15), 2);
    Check.due("of a day as known later", x.force(14, 15), 1);
    Check.due("of a day as known ahead", x.force(15, 14), 1);
    Check.due("later", x.force(3599, 3599), 2);
  }

  private static int nationOf(NationSchool x, String conds, int village) {
    x.keep(0);
    Check.statute(x, "nation 1 if " + conds + ";");
    int answer = x.nation(village, 0, 0);
    x.back(0);
    return answer;
  }

  private static void conds() {
    NationSchool x = new NationSchool();
    x.village(10, 20, 3);
    x.village(13, 24, 4);
    String[] hold = {"x<11", "x>9", "x=10", "y<21", "y>19", "y=20", "land=3", "not x<10", "not x>10",
        "not x=11", "not y<20", "not y>20", "not y=19", "not land=4", "near 0 0", "near 1 5",
        "not near 1 4", "near 1 9999", "x=10 and y=20", "x=10 and y=20 and land=3",
        "not x=9 and not y=9 and not land=9"};
    for (String conds : hold) {
      Check.due(conds, nationOf(x, conds, 0), 1);
    }
    String[] fail = {"x<10", "x>10", "x=11", "y<20", "y>20", "y=19", "land=4", "land=13", "not x<11",
        "not x>9", "not x=10", "not y<21", "not y>19", "not y=20", "not land=3", "not near 0 0",
        "not near 1 5", "near 1 4", "x=10 and y=21", "x=11 and y=20", "x=10 and y=20 and land=4",
        "x=10 and y=21 and land=3", "not x=9 and not y=9 and land=9"};
    for (String conds : fail) {
      Check.due(conds, nationOf(x, conds, 0), -1);
    }
    Check.due("near itself", nationOf(x, "near 1 0", 1), 1);
    x.village(15, 21, 0);
    Check.due("26 is more than 5 times 5", nationOf(x, "near 2 5", 0), -1);
  }

  private static void claimsAndTheFirst() {
    NationSchool x = new NationSchool();
    x.village(10, 20, 3);
    x.village(90, 20, 4);
    Check.due("no statute", x.claims(0, 0, 0), 0);
    Check.due("no statute", x.nation(0, 0, 0), -1);
    Check.statute(x, "nation 3 if x > 50; nation 2 if y = 20; nation 0 if x < 50; nation 2;");
    Check.due("claims(0)", x.claims(0, 0, 0), 5);
    Check.due("nation(0)", x.nation(0, 0, 0), 2);
    Check.due("claims(1)", x.claims(1, 0, 0), 12);
    Check.due("nation(1)", x.nation(1, 0, 0), 3);
    int[][] wrong = {{-1, 0, 0}, {2, 0, 0}, {0, -1, 0}, {0, 3600, 0}, {0, 0, -1}, {0, 0, 3600}};
    for (int[] w : wrong) {
      Check.due("claims", x.claims(w[0], w[1], w[2]), -2);
      Check.due("nation", x.nation(w[0], w[1], w[2]), -2);
    }
    x.next(7);
    Check.statute(x, "nation 1 if x > 50; turn 3;");
    Check.due("no line holds", x.nation(0, 7, 7), -1);
    Check.due("no claim", x.claims(0, 7, 7), 0);
    Check.due("of the day ahead", x.nation(0, 6, 7), 2);
    Check.due("as known ahead", x.nation(0, 7, 6), 2);
    Check.due("claims as known ahead", x.claims(1, 3599, 6), 12);
    Check.due("claims", x.claims(1, 3599, 7), 2);
    Check.due("claims of the day ahead", x.claims(1, 6, 7), 12);
    Check.due("claims of the day ahead", x.claims(0, 6, 3599), 5);
    NationSchool y = new NationSchool();
    y.village(10, 20, 3);
    Check.statute(y, "nation 0 if x=20; nation 1 if y=10; nation 2 if y=20; nation 3 if x=10;");
    Check.due("x is not y", y.claims(0, 0, 0), 12);
    Check.due("x is not y", y.nation(0, 0, 0), 2);
  }

  private static void sixteenLinesOfThree() {
    NationSchool x = new NationSchool();
    x.village(10, 10, 1);
    x.village(10, 15, 1);
    x.village(10, 16, 1);
    Check.statute(x, "nation 2 if x=1 and y=1 and x=1;".repeat(15) + "nation 1 if x<99 and y<99 and near 0 5;");
    Check.due("the last of all holds", x.nation(0, 0, 0), 1);
    Check.due("the last of all holds", x.claims(1, 0, 0), 2);
    Check.due("the last of all does not", x.nation(2, 0, 0), -1);
  }

  private static void landsAsKnown() {
    NationSchool x = new NationSchool();
    Check.statute(x, "nation 0 if land=0; nation 1 if land=1; nation 2 if land=2; nation 3;");
    x.next(10);
    x.village(5, 5, 0);
    x.village(5, 5, 3);
    Check.due("on days ahead too", x.nation(0, 0, 0), 0);
    x.moved(0, 2);
    x.moved(0, 1);
    Check.due("the day ahead", x.nation(0, 9, 10), 0);
    Check.due("known the day ahead", x.nation(0, 10, 9), 0);
    Check.due("the last of that day", x.nation(0, 10, 10), 1);
    Check.due("another village stays", x.nation(1, 10, 10), 3);
    x.next(5);
    x.moved(0, 2);
    Check.due("of a day between", x.nation(0, 14, 15), 1);
    Check.due("as known between", x.nation(0, 15, 14), 1);
    Check.due("today", x.nation(0, 15, 15), 2);
    Check.due("later", x.nation(0, 3599, 3599), 2);
    Check.due("claims", x.claims(0, 15, 15), 12);
    Check.due("claims between", x.claims(0, 14, 15), 10);
    Check.due("claims as known between", x.claims(0, 15, 14), 10);
    Check.due("claims ahead of all", x.claims(0, 15, 9), 9);
  }

  private static void sways() {
    NationSchool x = new NationSchool();
    Check.due("no village", x.sways(0), -2);
    x.village(5, 5, 0);
    x.village(90, 5, 0);
    Check.due("no statute", x.sways(0), 0);
    Check.due("no village", x.sways(2), -2);
    Check.due("no village", x.sways(-1), -2);
    Check.statute(x, "nation 3 if x>50; nation 1 if land=1; nation 2 if land=9; nation 0;");
    Check.due("sways(0)", x.sways(0), 2 + 512);
    Check.due("sways(1)", x.sways(1), 0);
    x.moved(0, 9);
    Check.due("from another land", x.sways(0), 1023 - 512);
    x.next(1);
    Check.statute(x, "nation 1 if land=4;");
    Check.due("from none to one", x.sways(0), 16);
    x.moved(0, 4);
    Check.due("from one to none", x.sways(0), 1023 - 16);
  }
}
