/** Promises 26 to 32: call, vote, close, electionOf, under, swing, undo. */
public final class ElectionTest {
  private static final int NOTHING = -2000000000;

  public static void main(String[] args) {
    calling();
    voting();
    closingByHeads();
    partsOfAll();
    justMoreThanHalf();
    closingByNations();
    whoIsThereCounts();
    whatIsToldOfOne();
    underAnother();
    underAsKnownThen();
    swingsByHeads();
    swingsByNations();
    undoing();
    aLongChain();
    theFirstStatuteToo();
    eachByItsOwnStatute();
    underAsKnownWhenClosed();
    voidAsKnown();
    Check.finish();
  }

  /** Persons 0, 1, 2 of NATION 0; 3, 4 of 1; 5 of 2; 6 of none. */
  private static NationSchool school(String more) {
    NationSchool x = new NationSchool();
    Check.statute(x, "nation 0 if land=0; nation 1 if land=1; nation 2 if land=2;" + more);
    for (int land = 0; land < 4; land++) {
      x.village(0, 0, land);
    }
    int[] villages = {0, 0, 0, 1, 1, 2, 3};
    for (int v : villages) {
      x.oath(v, 0);
    }
    return x;
  }

  /** Calls an ELECTION; a + or - for each PERSON, another sign: no vote. */
  private static int votes(NationSchool x, String votes) {
    int election = x.call();
    for (int p = 0; p < votes.length(); p++) {
      if (votes.charAt(p) == '+' || votes.charAt(p) == '-') {
        Check.due("vote", x.vote(election, p, votes.charAt(p) == '+'), 0);
      }
    }
    return election;
  }

  private static int closed(NationSchool x, String votes) {
    int election = votes(x, votes);
    x.close(election);
    return election;
  }

  private static void calling() {
    NationSchool x = new NationSchool();
    Check.due("call", x.call(), 0);
    Check.due("one is open", x.call(), -2);
    x.next(1);
    Check.due("the open one is of yesterday", x.call(), 1);
    Check.due("one is open", x.call(), -2);
    for (int i = 1; i < 19; i++) {
      x.close(i);
      Check.due("call", x.call(), i + 1);
    }
    Check.due("one is open, and 20", x.call(), -2);
    x.close(19);
    Check.due("20", x.call(), -3);
    Check.due("count(4)", x.count(4), 20);
  }

  private static void voting() {
    NationSchool x = school("");
    Check.due("none such", x.vote(0, 0, true), -2);
    x.call();
    Check.due("none such", x.vote(1, 0, true), -2);
    Check.due("none such", x.vote(-1, 0, true), -2);
    Check.due("no person", x.vote(0, 7, true), -2);
    Check.due("no person", x.vote(0, -1, true), -2);
    x.leave(6);
    Check.due("gone", x.vote(0, 6, true), -2);
    Check.due("for", x.vote(0, 0, true), 0);
    Check.due("against, in its place", x.vote(0, 0, false), 0);
    Check.due("for", x.vote(0, 1, true), 0);
    x.next(1);
    Check.due("on another day", x.vote(0, 2, false), 0);
    Check.due("close", x.close(0), 0);
    Check.due("for it", x.electionOf(0, 4), 1);
    Check.due("against it", x.electionOf(0, 5), 2);
    Check.due("closed", x.vote(0, 0, true), -5);
    Check.due("closed, no person", x.vote(0, 7, true), -2);
    Check.due("closed, gone", x.vote(0, 6, true), -2);
  }

  private static void closingByHeads() {
    NationSchool x = school("");
    Check.due("none such", x.close(0), -2);
    Check.due("none such", x.close(-1), -2);
    Check.due("no vote", x.close(votes(x, "")), 0);
    Check.due("it was", x.close(0), -5);
    Check.due("one for", x.close(votes(x, "+")), 1);
    Check.due("half", x.close(votes(x, "+-")), 0);
    Check.due("more than half", x.close(votes(x, "++-")), 1);
    Check.due("of no nation", x.close(votes(x, "+-    +")), 1);
    NationSchool y = new NationSchool();
    y.village(0, 0, 0);
    y.oath(0, 0);
    y.oath(0, 0);
    Check.due("without a statute", y.close(votes(y, "+ ")), 1);
    Check.due("without a statute, half", y.close(votes(y, "+-")), 0);
  }

  private static void partsOfAll() {
    NationSchool x = school("vote nations; part 66; part 60; vote heads;");
    Check.due("3 of 5", x.close(votes(x, "+++--")), 0);
    Check.due("2 of 3", x.close(votes(x, "++-")), 1);
    NationSchool v = school("vote nations; vote heads;");
    Check.due("the last line counts", v.close(votes(v, "+++--")), 1);
    NationSchool u = school("vote heads; vote nations;");
    Check.due("the last line counts", u.close(votes(u, "+++--")), 0);
    NationSchool y = school("part 0;");
    Check.due("none for", y.close(votes(y, "-")), 0);
    Check.due("one for", y.close(votes(y, "+------")), 1);
    NationSchool z = school("part 99;");
    Check.due("all", z.close(votes(z, "+++++++")), 1);
    Check.due("all but one", z.close(votes(z, "++++++-")), 0);
    NationSchool w = school("part 100;");
    Check.due("more than all", w.close(votes(w, "+++++++")), 0);
  }

  private static void justMoreThanHalf() {
    for (String text : new String[] {"", "turn 1;"}) {
      NationSchool x = new NationSchool();
      if (!text.isEmpty()) {
        Check.statute(x, text);
      }
      x.village(0, 0, 0);
      for (int i = 0; i < 79; i++) {
        x.oath(0, 0);
      }
      Check.due("40 of 79", x.close(votes(x, "+".repeat(40) + "-".repeat(39))), 1);
      Check.due("39 of 79", x.close(votes(x, "+".repeat(39) + "-".repeat(40))), 0);
      Check.due("swing", x.swing(0), 1);
    }
  }

  private static void aLongChain() {
    NationSchool x = new NationSchool();
    x.village(0, 0, 0);
    x.oath(0, 0);
    for (int i = 0; i < 10; i++) {
      closed(x, "+");
      Check.due("passed by " + i, Check.statute(x, "turn 2;", i), i);
    }
    closed(x, "-");
    x.next(1);
    closed(x, "-");
    Check.due("all of it", x.undo(0), 12 + 10);
    Check.due("nothing in force", x.force(3599, 1), -1);
    Check.due("known the day ahead", x.force(3599, 0), 9);
    Check.due("void", x.electionOf(11, 7), 1);
  }

  private static void theFirstStatuteToo() {
    NationSchool x = new NationSchool();
    x.village(0, 0, 0);
    x.oath(0, 0);
    votes(x, "-");
    x.next(1);
    closed(x, "+");
    Check.due("passed by 1", Check.statute(x, "turn 2;", 1), 0);
    Check.due("closed by it", x.close(0), 0);
    Check.due("1, its statute, and 0", x.undo(1), 3);
    Check.due("void", x.electionOf(0, 7), 1);
  }

  /** ELECTION 0 by heads, 1 by NATIONS, 2 by heads again, with another part. */
  private static void eachByItsOwnStatute() {
    String nations = "nation 0 if land=0; nation 1 if land=1; nation 2 if land=2;";
    NationSchool x = school("");
    // Of NATION 0 three for it, of 1 two against, of 2 one against: 3 of 6.
    closed(x, "+++---");
    Check.statute(x, nations + "vote nations; part 10;");
    closed(x, "++++--");
    Check.statute(x, nations + "part 49;");
    closed(x, "+++---");
    int[][] due = {{0, 0, 1, 6}, {0, 1, 1, 4}, {1, 1, 1, 6}};
    for (int e = 0; e < 3; e++) {
      for (int what = 0; what < 4; what++) {
        Check.due("electionOf(" + e + ", " + what + ")", x.electionOf(e, what), due[e][what]);
      }
    }
    Check.due("swing by heads", x.swing(0), 1);
    // NATION 1 is split: one of it is enough.
    Check.due("swing by nations", x.swing(1), 1);
    Check.due("swing by heads, part 49", x.swing(2), 1);
    closed(x, "++++++");
    Check.due("6 of 6 by 49", x.swing(3), 4);
    Check.statute(x, nations + "vote nations; part 10;");
    closed(x, "------");
    Check.due("none by nations", x.swing(4), 3);
    closed(x, "+++++ ");
    Check.due("two of NATION 0, which is against it then", x.swing(5), 2);
    Check.due("under the first", x.under(1, 0), 1);
    Check.due("under the third", x.under(0, 2), 1);
  }

  private static void underAsKnownWhenClosed() {
    NationSchool x = school("vote nations;");
    x.next(5);
    closed(x, "+");
    x.call();
    x.next(5);
    x.moved(3, 1);
    x.oath(3, 0);
    x.vote(1, 7, true);
    Check.due("of nation 1, by a word of today", x.close(1), 1);
    Check.due("as known on the day of closing", x.under(1, 0), 1);
  }

  private static void closingByNations() {
    NationSchool x = school("vote nations; part 90;");
    Check.due("2 against 1", x.close(votes(x, "---+ +")), 1);
    Check.due("1 against 1", x.close(votes(x, "+++-")), 0);
    Check.due("a nation split", x.close(votes(x, "+  +-")), 1);
    Check.due("votes of none", x.close(votes(x, "      +")), 0);
    Check.due("no vote", x.close(votes(x, "")), 0);
    Check.due("for", x.electionOf(0, 2), 6);
    Check.due("against", x.electionOf(0, 3), 1);
    Check.due("for, split", x.electionOf(2, 2), 1);
    Check.due("against, split", x.electionOf(2, 3), 0);
    Check.due("by heads", x.electionOf(0, 1), 0);
    Check.due("votes for", x.electionOf(3, 4), 1);
  }

  private static void whoIsThereCounts() {
    NationSchool x = school("");
    votes(x, "++-");
    x.leave(0);
    Check.due("close", x.close(0), 0);
    Check.due("for it", x.electionOf(0, 4), 1);
    Check.due("against it", x.electionOf(0, 5), 1);
    closed(x, " ++-");
    x.leave(1);
    x.next(1);
    Check.due("who left later did vote", x.electionOf(1, 4), 2);
    Check.due("under", x.under(1, 0), 1);
    Check.due("swing", x.swing(1), 1);
    Check.due("under, one that did not count", x.under(0, 0), 0);
  }

  private static void whatIsToldOfOne() {
    NationSchool x = school("vote nations;");
    x.next(3);
    int election = votes(x, "+++-+-");
    Check.due("open", x.electionOf(0, 0), NOTHING);
    x.next(4);
    x.close(election);
    int[] due = {0, 1, 1, 4, 4, 2, 7, 0};
    for (int what = 0; what < due.length; what++) {
      Check.due("what " + what, x.electionOf(0, what), due[what]);
    }
    Check.due("what 8", x.electionOf(0, 8), NOTHING);
    Check.due("what -1", x.electionOf(0, -1), NOTHING);
    Check.due("none such", x.electionOf(1, 0), NOTHING);
    Check.due("none such", x.electionOf(-1, 0), NOTHING);
    x.moved(0, 1);
    Check.due("nations as counted", x.electionOf(0, 2), 1);
    x.undo(0);
    Check.due("void", x.electionOf(0, 7), 1);
  }

  private static void underAnother() {
    NationSchool x = school("vote nations;");
    int election = closed(x, "+++-+--");
    Check.due("1 for, 1 against", x.electionOf(0, 0), 0);
    Check.due("under its own", x.under(election, 0), 0);
    Check.statute(x, "vote heads;");
    Check.due("by heads", x.under(election, 1), 1);
    Check.statute(x, "part 58;");
    Check.due("4 of 7 by 58", x.under(election, 2), 0);
    Check.statute(x, "part 57;");
    Check.due("4 of 7 by 57", x.under(election, 3), 1);
    Check.statute(x, "vote nations; nation 0 if land=0; nation 1 if land=1;");
    Check.due("another sorting", x.under(election, 4), 1);
    Check.statute(x, "vote nations; nation 3;");
    Check.due("all in one", x.under(election, 5), 1);
    Check.statute(x, "vote nations;");
    Check.due("of no nation", x.under(election, 6), 0);
    Check.due("no statute", x.under(election, 7), -2);
    Check.due("no statute", x.under(election, -1), -2);
    Check.due("no election", x.under(1, 0), -2);
    Check.due("no election", x.under(-1, 0), -2);
    x.call();
    Check.due("open", x.under(1, 0), -2);
  }

  private static void underAsKnownThen() {
    NationSchool x = school("vote nations;");
    x.next(9);
    x.oath(3, 0);
    int election = closed(x, "       +");
    Check.due("of no nation", x.under(election, 0), 0);
    x.moved(3, 1);
    Check.due("a word of that day", x.under(election, 0), 1);
    Check.due("as it was counted", x.electionOf(election, 0), 0);
    x.next(1);
    x.moved(3, 3);
    Check.due("a later word", x.under(election, 0), 1);
  }

  private static void swingsByHeads() {
    NationSchool x = school("");
    Check.due("none such", x.swing(0), -2);
    Check.due("none such", x.swing(-1), -2);
    x.call();
    Check.due("open", x.swing(0), -2);
    x.close(0);
    Check.due("no votes", x.swing(0), -1);
    Check.due("one for", x.swing(closed(x, "+")), 1);
    Check.due("one against", x.swing(closed(x, "-")), 1);
    Check.due("5 for, 2 against", x.swing(closed(x, "+++++--")), 2);
    Check.due("2 for, 5 against", x.swing(closed(x, "++-----")), 2);
    Check.due("6 for, none against", x.swing(closed(x, "++++++")), 3);
    Check.due("6 against", x.swing(closed(x, "------")), 4);
    NationSchool y = school("part 100;");
    Check.due("not by any", y.swing(closed(y, "++-----")), -1);
    NationSchool z = school("part 0;");
    Check.due("each of them", z.swing(closed(z, "+++----")), 3);
    Check.due("one is enough", z.swing(closed(z, "-------")), 1);
  }

  private static void swingsByNations() {
    NationSchool x = school("vote nations;");
    // One of 2 against, one of 1 split.
    Check.due("3 for", x.swing(closed(x, "++++++")), 2);
    // One of 2 for, then two of 1 or of 0.
    Check.due("3 against", x.swing(closed(x, "------")), 3);
    Check.due("1 for", x.swing(closed(x, "+++")), 2);
    Check.due("split", x.swing(closed(x, "   +-")), 1);
    Check.due("of none", x.swing(closed(x, "      +")), -1);
    Check.due("2 for, 1 against", x.swing(closed(x, "---+ +")), 1);
    x.moved(0, 1);
    Check.due("nations as counted", x.swing(0), 2);
  }

  private static void undoing() {
    NationSchool x = school("");
    Check.due("none such", x.undo(0), -2);
    Check.due("none such", x.undo(-1), -2);
    votes(x, "+");
    Check.due("open", x.undo(0), -2);
    x.close(0);
    Check.due("passed", Check.statute(x, "turn 4;", 0), 1);
    closed(x, "+");
    Check.due("passed by 1", Check.statute(x, "turn 5;", 1), 2);
    Check.due("passed by 1", Check.statute(x, "turn 6;", 1), 3);
    closed(x, "-");
    Check.due("passed by none", Check.statute(x, "turn 7;", -1), 4);
    closed(x, "+");
    Check.due("passed by 3", Check.statute(x, "turn 8;", 3), 5);
    x.call();
    Check.due("1, its statutes, and 2", x.undo(1), 4);
    Check.due("it was", x.undo(1), -5);
    Check.due("2 was", x.undo(2), -5);
    int[] voids = {0, 1, 1, 0};
    for (int i = 0; i < 4; i++) {
      Check.due("void " + i, x.electionOf(i, 7), voids[i]);
    }
    Check.due("0 and what hangs on it", x.undo(0), 2);
    Check.due("the one passed by 3", x.force(0, 0), 5);
    Check.due("the open one can be closed", x.close(4), 0);
    Check.due("by statute 5", x.undo(3), 3);
    Check.due("in force", x.force(0, 0), 4);
    Check.due("void", x.electionOf(4, 7), 1);
  }

  private static void voidAsKnown() {
    NationSchool x = school("");
    x.next(10);
    closed(x, "+");
    Check.statute(x, "nation 3;", 0);
    x.next(10);
    x.oath(0, 0);
    Check.due("of(7)", x.of(7, 20), 3);
    x.next(10);
    x.undo(0);
    Check.due("as known the day ahead", x.force(10, 29), 1);
    Check.due("as known that day, for all days", x.force(10, 30), 0);
    Check.due("as known that day", x.force(3599, 30), 0);
    Check.due("of(7) as known ahead", x.of(7, 29), 3);
    Check.due("of(7)", x.of(7, 30), 0);
    Check.due("day of the election", x.electionOf(0, 6), 10);
  }
}
