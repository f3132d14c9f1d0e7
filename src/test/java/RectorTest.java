/** Promises 33 and 34: rector, turn. */
public final class RectorTest {
  private static final String FOUR =
      "nation 0 if land=0; nation 1 if land=1; nation 2 if land=2; nation 3 if land=3;";

  public static void main(String[] args) {
    wrongNumbers();
    turnsOfThreeMonths();
    turnsByStatute();
    nationsWithoutPersons();
    nextTurns();
    turnsAcrossChanges();
    turnsThatEndEarly();
    nationsAsKnown();
    severalChanges();
    Check.finish();
  }

  private static NationSchool school(String more, int... lands) {
    NationSchool x = new NationSchool();
    for (int land = 0; land < 5; land++) {
      x.village(0, 0, land);
    }
    Check.statute(x, FOUR + more);
    for (int land : lands) {
      x.oath(land, 0);
    }
    return x;
  }

  private static void wrongNumbers() {
    NationSchool x = school("", 0);
    int[][] days = {{-1, 0}, {3600, 0}, {0, -1}, {0, 3600}};
    for (int[] d : days) {
      Check.due("rector", x.rector(d[0], d[1]), -2);
    }
    int[][] turns = {{-1, 0}, {4, 0}, {0, -1}, {0, 3600}};
    for (int[] t : turns) {
      Check.due("turn", x.turn(t[0], t[1]), -2);
    }
    NationSchool y = school("", 4);
    Check.due("nobody of a nation", y.rector(0, 0), -1);
    Check.due("nobody of a nation", y.turn(0, 0), -1);
  }

  private static void turnsOfThreeMonths() {
    NationSchool x = school("", 0, 1, 2, 3);
    int[][] days = {{0, 0}, {89, 0}, {90, 1}, {179, 1}, {180, 2}, {270, 3}, {359, 3}, {360, 0},
        {3599, 3}};
    for (int[] d : days) {
      Check.due("rector(" + d[0] + ")", x.rector(d[0], 0), d[1]);
    }
  }

  private static void turnsByStatute() {
    NationSchool x = school("turn 5; turn 1;", 0, 1, 2, 3);
    Check.due("day 29", x.rector(29, 0), 0);
    Check.due("day 30", x.rector(30, 0), 1);
    Check.due("day 125", x.rector(125, 0), 0);
    x.next(100);
    Check.statute(x, "turn 99;");
    Check.due("the day ahead", x.rector(99, 100), 3);
    Check.due("that day", x.rector(100, 100), 0);
    Check.due("as known ahead", x.rector(100, 99), 3);
    Check.due("day 2969", x.rector(2969, 100), 0);
    Check.due("day 2970", x.rector(2970, 100), 1);
    Check.due("as known ahead", x.rector(3599, 99), 3);
  }

  private static void nationsWithoutPersons() {
    NationSchool x = school("", 1, 4);
    Check.due("turn of 0 goes to 1", x.rector(0, 0), 1);
    Check.due("turn of 3 goes to 1", x.rector(270, 0), 1);
    x.next(50);
    x.oath(3, 0);
    x.leave(0);
    Check.due("1 is gone", x.rector(50, 50), 3);
    Check.due("1 was there", x.rector(49, 50), 1);
    Check.due("persons as they are now", x.rector(49, 0), 1);
    x.next(1);
    x.leave(2);
    Check.due("none", x.rector(51, 51), -1);
    Check.due("3 was there", x.rector(50, 51), 3);
  }

  private static void nextTurns() {
    NationSchool x = school("", 0, 1, 3);
    Check.due("has it", x.turn(0, 0), 0);
    Check.due("has it", x.turn(0, 50), 50);
    Check.due("next", x.turn(1, 0), 90);
    Check.due("next", x.turn(3, 0), 180);
    Check.due("from 91", x.turn(0, 91), 360);
    Check.due("of nobody", x.turn(2, 0), -1);
    Check.due("the last", x.turn(3, 3599), 3599);
    Check.due("no more", x.turn(0, 3330), -1);
    Check.due("the last of 0", x.turn(0, 3329), 3329);
  }

  private static void turnsThatEndEarly() {
    NationSchool x = school("", 1, 0, 2, 3);
    x.next(95);
    x.keep(0);
    Check.statute(x, FOUR + "turn 1;");
    Check.due("a statute makes it turn 3", x.turn(3, 90), 95);
    x.back(0);
    x.leave(0);
    Check.due("1 left, so it goes to 2", x.turn(2, 90), 95);
    Check.due("1 had it up to then", x.turn(1, 94), 94);
    Check.due("and never again", x.turn(1, 95), -1);
  }

  /** A PERSON whose NATION is another one as known since a STATUTE became VOID. */
  private static void nationsAsKnown() {
    NationSchool x = school("", 1);
    x.call();
    x.vote(0, 0, true);
    x.close(0);
    Check.due("passed", Check.statute(x, "nation 2;", 0), 1);
    x.leave(0);
    x.oath(1, 0);
    x.next(20);
    Check.due("turn of 2", x.turn(2, 5), 5);
    x.undo(0);
    Check.due("as known ahead", x.rector(5, 19), 2);
    Check.due("as known since", x.rector(5, 20), 1);
    Check.due("as known ahead, of a later day", x.rector(25, 19), 2);
    Check.due("as known since, of a later day", x.rector(25, 20), 1);
    Check.due("turn of 1, as known today", x.turn(1, 5), 5);
    Check.due("turn of 2, as known today", x.turn(2, 5), -1);
  }

  private static void severalChanges() {
    NationSchool x = school("turn 99;", 0, 3);
    x.next(95);
    Check.statute(x, FOUR + "turn 1;");
    x.next(105);
    Check.statute(x, FOUR + "turn 99;");
    Check.due("between two statutes", x.turn(3, 0), 95);
    NationSchool y = school("turn 99;");
    y.next(95);
    y.oath(1, 0);
    y.next(25);
    y.leave(0);
    y.next(30);
    y.oath(2, 0);
    y.oath(3, 0);
    y.next(10);
    y.leave(1);
    Check.due("between two oaths", y.turn(1, 0), 95);
    Check.due("the second", y.turn(2, 0), 150);
    Check.due("behind its leaving", y.turn(3, 0), 160);
    Check.due("behind both", y.turn(3, 155), 160);
    Check.due("the first is gone", y.turn(1, 120), -1);
  }

  private static void turnsAcrossChanges() {
    NationSchool x = school("", 0);
    x.next(95);
    x.oath(1, 0);
    Check.due("from the day of its oath", x.turn(1, 0), 95);
    x.next(5);
    x.leave(0);
    Check.due("all that follow", x.turn(1, 180), 180);
    Check.due("0 is gone", x.turn(0, 96), -1);
    Check.due("0 was there", x.turn(0, 94), 94);
    x.oath(2, 0);
    Check.statute(x, FOUR + "turn 1;");
    Check.due("by the one ahead", x.turn(1, 99), 99);
    Check.due("turn 3 goes to 1", x.turn(1, 100), 100);
    Check.due("turn 6", x.turn(2, 99), 180);
    Check.statute(x, FOUR + "turn 2;");
    Check.due("turn 2 of 60 days", x.turn(2, 99), 120);
    x.next(17);
    Check.statute(x, FOUR + "turn 99;");
    Check.due("turns 0 and 1 go to 1", x.turn(2, 99), -1);
    x.leave(1);
    Check.due("from the day on which 1 left", x.turn(2, 99), 117);
    Check.statute(x, "turn 99;");
    Check.due("of the oath's day", x.turn(2, 99), 117);
  }
}
