/** Promises 41 to 45: worth, exodus, goes, returns, judge. */
public final class ExodusTest {
  public static void main(String[] args) {
    worths();
    mostAndFewest();
    whoReturns();
    goneOnes();
    judging();
    judgingTheLastBit();
    Check.finish();
  }

  private static NationSchool school(int... worths) {
    NationSchool x = new NationSchool();
    x.village(0, 0, 0);
    for (int p = 0; p < worths.length; p++) {
      x.oath(0, 0);
      x.worth(p, worths[p]);
    }
    return x;
  }

  private static void worths() {
    NationSchool x = new NationSchool();
    x.village(0, 0, 0);
    Check.due("no person", x.worth(0, 0), -2);
    x.oath(0, 0);
    Check.due("no person", x.worth(1, 0), -2);
    Check.due("no person", x.worth(-1, 0), -2);
    Check.due("99 at first", x.worth(0, 7), 99);
    Check.due("another number", x.worth(0, -1), -2);
    Check.due("another number", x.worth(0, 100), -2);
    Check.due("what was told", x.worth(0, 99), 7);
    Check.due("what was told", x.worth(0, 0), 99);
  }

  private static void mostAndFewest() {
    NationSchool none = new NationSchool();
    Check.due("nobody", none.exodus(0), 0);
    Check.due("nobody", none.exodus(1), 0);
    Check.due("wrong", none.exodus(2), -2);
    Check.due("wrong", none.exodus(-1), -2);
    // {1} would go alone never; all four stand, for each sees three others.
    NationSchool x = school(1, 1, 3, 3);
    Check.due("the most", x.exodus(0), 4);
    Check.due("the fewest", x.exodus(1), 0);
    Check.due("goes", x.goes(3, 0), 1);
    Check.due("goes", x.goes(3, 1), 0);
    x.worth(0, 0);
    Check.due("the fewest", x.exodus(1), 2);
    Check.due("goes", x.goes(1, 1), 1);
    Check.due("goes", x.goes(2, 1), 0);
    x.worth(3, 4);
    Check.due("the most", x.exodus(0), 2);
    Check.due("goes", x.goes(2, 0), 0);
    Check.due("wrong what", x.goes(0, 2), -2);
    Check.due("wrong what", x.goes(0, -1), -2);
    Check.due("no person", x.goes(4, 0), -2);
    Check.due("no person", x.goes(-1, 0), -2);
  }

  private static void whoReturns() {
    NationSchool x = school(0, 5, 9, 9, 2, 3);
    // 3, then 2 (they want the most); 1 wants 5 of 3; 5 wants 3 of 2; 4 wants 2 of 1.
    int[] due = {3, 2, 1, 5, 4, -1};
    for (int k = 0; k < due.length; k++) {
      Check.due("returns(" + k + ")", x.returns(k), due[k]);
    }
    Check.due("returns(-1)", x.returns(-1), -1);
    Check.due("returns(100)", x.returns(100), -1);
    Check.due("the most", x.exodus(0), 1);
    Check.due("all stay away", school(1, 1).returns(0), -1);
    Check.due("who wants the most, not the last", school(9, 8, 0).returns(0), 0);
    Check.due("then the next", school(9, 8, 0).returns(1), 1);
  }

  private static void goneOnes() {
    NationSchool x = school(1, 0, 0);
    x.leave(1);
    Check.due("the most", x.exodus(0), 2);
    Check.due("the fewest", x.exodus(1), 2);
    Check.due("gone", x.goes(1, 0), 0);
    Check.due("gone", x.goes(1, 1), 0);
    x.leave(2);
    Check.due("the most", x.exodus(0), 0);
    Check.due("returns", x.returns(0), 0);
    Check.due("returns", x.returns(1), -1);
  }

  private static void judging() {
    NationSchool x = school(1, 1, 3, 3);
    Check.due("nobody stands", x.judge(0), 0);
    Check.due("all stand", x.judge(15), 0);
    Check.due("two stand", x.judge(3), 0);
    Check.due("one returns, others would go", x.judge(1), 1);
    Check.due("one returns", x.judge(4), 1);
    Check.due("a third returns", x.judge(7), 1);
    x.worth(2, 2);
    Check.due("somebody else would go", x.judge(3), 2);
    Check.due("three", x.judge(7), 2);
    Check.due("no such person", x.judge(16), -2);
    Check.due("no such person", x.judge(-1), -2);
    x.leave(3);
    Check.due("gone", x.judge(8), -2);
    Check.due("three stand", x.judge(7), 0);
    x.leave(0);
    Check.due("the first is gone", x.judge(1), -2);
    Check.due("the first is gone", x.judge(7), -2);
    x = school(1, 1, 2, 0);
    x.leave(3);
    Check.due("who is gone would not go", x.judge(7), 0);
  }

  private static void judgingTheLastBit() {
    int[] worths = new int[34];
    java.util.Arrays.fill(worths, 99);
    worths[31] = 0;
    NationSchool x = school(worths);
    Check.due("bit 31", x.judge(Integer.MIN_VALUE), 0);
    x.worth(32, 1);
    Check.due("32 would go", x.judge(Integer.MIN_VALUE), 2);
    x.worth(32, 2);
    Check.due("32 stays", x.judge(Integer.MIN_VALUE), 0);
    x.worth(0, 0);
    Check.due("0 would go", x.judge(Integer.MIN_VALUE), 2);
    x.worth(32, 0);
    x.worth(0, 99);
    Check.due("32 is no bit", x.judge(1), 1);
  }
}
