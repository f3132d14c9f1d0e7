/** Promises 7 and 8: statute, fault; the language of Term II. */
public final class StatuteTest {
  public static void main(String[] args) {
    textsThatAreStatutes();
    faultsOfTokens();
    faultsOfNumbers();
    faultsOfTooMany();
    theFaultOfTheLatest();
    electionsThatPassOne();
    thereAreTen();
    Check.finish();
  }

  private static NationSchool withTwoVillages() {
    NationSchool x = new NationSchool();
    x.village(10, 20, 3);
    x.village(50, 60, 4);
    return x;
  }

  private static void good(String text) {
    NationSchool x = withTwoVillages();
    Check.due("statute(\"" + text + "\")", Check.statute(x, text, -1), 0);
    Check.due("fault(0)", x.fault(0), 0);
    Check.due("fault(1)", x.fault(1), -1);
    Check.due("tape of \"" + text + "\"", x.count(6), 0);
  }

  private static void bad(String text, int fault, int place) {
    NationSchool x = withTwoVillages();
    Check.due("statute(\"" + text + "\")", Check.statute(x, text, -1), -4);
    Check.due("fault(0) of \"" + text + "\"", x.fault(0), fault);
    Check.due("fault(1) of \"" + text + "\"", x.fault(1), place);
    Check.due("tape of \"" + text + "\"", x.count(6), 0);
    Check.due("statutes", x.count(3), 0);
  }

  private static void textsThatAreStatutes() {
    good("");
    good(" \n \n");
    good("nation 0;");
    good("nation0;nation3;");
    good("  nation\n3 ; ");
    good("nation 1 if land = 9999;");
    good("nation 1 if not land=0 and x<0 and not y > 9999;");
    good("nation 2 if x=10 and y<7 and not near 1 9999;");
    good("nation 2if near 0 0;");
    good("fee 0 0; fee 3 9999; fee3 1;");
    good("vote heads; vote nations;");
    good("part 0; part 9999; turn 1; turn 99;");
    good("turn 0000000000000000000000000000000000099;");
    good("turn 1;".repeat(16));
    good("turn 1;".repeat(16) + "\n ");
    good("nation 0 if y=0; nation 1 if x=0;");
    good("turn 1;" + " ".repeat(593));
    good(" ".repeat(593) + "turn 1;");
  }

  private static void faultsOfTokens() {
    bad(";", 1, 0);
    bad(" turn 5 turn 6;", 1, 8);
    bad("turn 5", 1, 6);
    bad("turn 5  \n", 1, 9);
    bad("turn", 1, 4);
    bad("turn;", 1, 4);
    bad("turn five;", 1, 5);
    bad("turns 5;", 1, 0);
    bad("turnz 5;", 1, 0);
    bad("turn 5" + " ".repeat(594), 1, 600);
    bad(" ".repeat(594) + "turn 5", 1, 600);
    bad(" ".repeat(596) + "turn", 1, 600);
    bad("Turn 5;", 1, 0);
    bad("tuRn 5;", 1, 0);
    bad("turn 5.;", 1, 6);
    bad("turn\t5;", 1, 4);
    bad("turn\r5;", 1, 4);
    bad("turn -5;", 1, 5);
    bad("turn 5;\u0000", 1, 7);
    bad("turn 5;;", 1, 7);
    bad("5;", 1, 0);
    bad("if x < 1;", 1, 0);
    bad("nation 1 if;", 1, 11);
    bad("nation 1 if", 1, 11);
    bad("nation 1 x < 5;", 1, 9);
    bad("nation 1 and x < 5;", 1, 9);
    bad("nation 1 if not not x < 5;", 1, 16);
    bad("nation 1 if not 5;", 1, 16);
    bad("nation 1 if not;", 1, 15);
    bad("nation 1 if land < 5;", 1, 17);
    bad("nation 1 if land 5;", 1, 17);
    bad("nation 1 if x 5;", 1, 14);
    bad("nation 1 if x ; 5;", 1, 14);
    bad("nation 1 if y <= 5;", 1, 15);
    bad("nation 1 if x < y;", 1, 16);
    bad("nation 1 if x < 5 x < 6;", 1, 18);
    bad("nation 1 if x < 5 and;", 1, 21);
    bad("nation 1 if x < 5 if x < 6;", 1, 18);
    bad("nation 1 if near = 0 5;", 1, 17);
    bad("nation 1 if near 0;", 1, 18);
    bad("nation 1 if near 0 x;", 1, 19);
    bad("nation 1 if xy < 5;", 1, 12);
    bad("fee 1;", 1, 5);
    bad("fee;", 1, 3);
    bad("fee 1 2 3;", 1, 8);
    bad("vote;", 1, 4);
    bad("vote head;", 1, 5);
    bad("vote nation;", 1, 5);
    bad("vote 1;", 1, 5);
    bad("vote heads nations;", 1, 11);
    bad("part heads;", 1, 5);
    bad("nations 1;", 1, 0);
    bad("turn 5; \u00e9", 1, 8);
  }

  private static void faultsOfNumbers() {
    bad("nation 4;", 2, 7);
    bad("nation 4 foo", 2, 7);
    bad("nation 99999999999999999999999;", 2, 7);
    bad("nation 4294967296;", 2, 7);
    bad("fee 4 1;", 2, 4);
    bad("fee 1 10000;", 2, 6);
    bad("fee 4 10000;", 2, 4);
    bad("part 10000;", 2, 5);
    bad("turn 0;", 2, 5);
    bad("turn 100;", 2, 5);
    bad("nation 0 if land = 10000;", 2, 19);
    bad("nation 0 if x < 10000;", 2, 16);
    bad("nation 0 if y > 10000;", 2, 16);
    bad("nation 0 if near 2 0;", 2, 17);
    bad("nation 0 if near 1 10000;", 2, 19);
    NationSchool x = new NationSchool();
    Check.due("no village", Check.statute(x, "nation 0 if near 0 5;", -1), -4);
    Check.due("fault(0)", x.fault(0), 2);
    Check.due("fault(1)", x.fault(1), 17);
    x.village(0, 0, 0);
    Check.due("a village", Check.statute(x, "nation 0 if near 0 5;", -1), 0);
  }

  private static void faultsOfTooMany() {
    String sixteen = "turn 1;".repeat(16);
    bad(sixteen + "turn 1;", 3, 112);
    bad(sixteen + "  nation 9;", 3, 114);
    bad(sixteen + "fee", 3, 112);
    bad(sixteen + "vote", 3, 112);
    bad(sixteen + "part", 3, 112);
    bad(sixteen + "foo;", 1, 112);
    bad(sixteen + ";", 1, 112);
    bad(sixteen + "if", 1, 112);
    bad(sixteen + "turns", 1, 112);
    String three = "nation 0 if x<1 and y<1 and land=1 and ";
    bad(three + "x<2;", 3, 39);
    bad(three + "y", 3, 39);
    bad(three + "land", 3, 39);
    bad(three + "near", 3, 39);
    bad(three + " not", 3, 40);
    bad(three + " not foo", 3, 40);
    bad(three + "foo", 1, 39);
    bad(three + ";", 1, 39);
    bad(three, 1, 39);
    bad(three + "5", 1, 39);
    good("nation 0 if x<1 and y<1 and land=1;nation 1 if x<1 and y<1 and land=1;");
    good("nation 0 if x<1 and y<1 and land=1;".repeat(16));
  }

  private static void theFaultOfTheLatest() {
    NationSchool x = new NationSchool();
    Check.due("fault(0) ahead of any", x.fault(0), 0);
    Check.due("fault(1) ahead of any", x.fault(1), -1);
    Check.due("fault(2)", x.fault(2), -1);
    Check.due("fault(-1)", x.fault(-1), -1);
    Check.statute(x, "turn 0;", -1);
    Check.due("fault(0)", x.fault(0), 2);
    Check.due("fault(2)", x.fault(2), -1);
    Check.due("did not read", Check.statute(x, "foo", 0), -2);
    Check.due("the tape stays", x.count(6), 3);
    Check.due("fault(0) of the one ahead", x.fault(0), 2);
    Check.due("fault(1) of the one ahead", x.fault(1), 5);
    Check.due("now it reads", x.statute(-1), -4);
    Check.due("fault(0)", x.fault(0), 1);
    Check.due("fault(1)", x.fault(1), 0);
    Check.due("an empty one", x.statute(-1), 0);
    Check.due("fault(0)", x.fault(0), 0);
    Check.due("fault(1)", x.fault(1), -1);
  }

  private static void electionsThatPassOne() {
    NationSchool x = new NationSchool();
    x.village(0, 0, 0);
    x.oath(0, 0);
    Check.due("none such", x.statute(0), -2);
    Check.due("none such", x.statute(-2), -2);
    x.call();
    x.vote(0, 0, true);
    Check.tape(x, "turn 7;");
    Check.due("open", x.statute(0), -2);
    Check.due("close", x.close(0), 1);
    Check.due("closed and carried", x.statute(0), 0);
    Check.due("once more", x.statute(0), 1);
    x.call();
    x.close(1);
    Check.due("not carried", x.statute(1), -2);
    x.undo(0);
    Check.due("void", x.statute(0), -2);
    x.call();
    x.vote(2, 0, true);
    x.close(2);
    x.next(1);
    Check.due("closed yesterday", x.statute(2), -2);
    x.call();
    x.vote(3, 0, true);
    x.next(1);
    x.close(3);
    Check.due("called yesterday, closed today", x.statute(3), 2);
  }

  private static void thereAreTen() {
    NationSchool x = new NationSchool();
    for (int i = 0; i < 10; i++) {
      Check.due("statute", Check.statute(x, "turn 1;", -1), i);
    }
    Check.due("an eleventh", Check.statute(x, "foo", -1), -3);
    Check.due("the tape stays", x.count(6), 3);
    Check.due("fault(0)", x.fault(0), 0);
    Check.due("no election goes first", x.statute(5), -2);
    Check.due("count(3)", x.count(3), 10);
  }
}
