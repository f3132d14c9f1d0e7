/** Edges that the Terms of the document name: IV to VIII (elections, rector, houses, exodus, books). */
public final class EdgesOfLaterTermsTest extends EdgeCases {
  public static void main(String[] args) {
    votesThatCount();
    byHeads();
    byNations();
    byWhichStatute();
    whatOneTwoThree();
    under();
    swing();
    whatHangs();
    voidAsKnown();
    turns();
    rents();
    lodged();
    standingSets();
    theMost();
    theFewest();
    likeness();
    theFirstJoining();
    theGreatestSum();
    Check.finish();
  }

  private static final String FOUR =
      "nation 0 if land=0; nation 1 if land=1; nation 2 if land=2; nation 3 if land=3;";

  /** VILLAGE i is of LAND i; a PERSON for each LAND that is told. */
  private static NationSchool school(String text, int... lands) {
    NationSchool x = new NationSchool();
    for (int land = 0; land < 5; land++) {
      x.village(0, 0, land);
    }
    if (!text.isEmpty()) {
      Check.statute(x, text);
    }
    for (int land : lands) {
      x.oath(land, 0);
    }
    return x;
  }

  /** Calls an ELECTION; a + or - for each PERSON, another sign: no vote. */
  private static int open(NationSchool x, String votes) {
    int election = x.call();
    for (int p = 0; p < votes.length(); p++) {
      if (votes.charAt(p) == '+' || votes.charAt(p) == '-') {
        Check.due("vote", x.vote(election, p, votes.charAt(p) == '+'), 0);
      }
    }
    return election;
  }

  private static int closed(NationSchool x, String votes) {
    int election = open(x, votes);
    Check.that("it is closed", x.close(election) >= 0);
    return election;
  }

  /** PERSONS of no NATION, as many as there are votes. */
  private static int outcome(String text, String votes) {
    NationSchool x = school(text, new int[votes.length()]);
    return x.close(open(x, votes));
  }

  private static int outcomeOfLands(String text, String votes, int... lands) {
    NationSchool x = school(text, lands);
    return x.close(open(x, votes));
  }

  // ---- IV

  private static void votesThatCount() {
    term("IV", "votes of PERSONS who are there on the DAY on which it is closed count");
    NationSchool x = school("", 0, 0, 0);
    open(x, "++-");
    x.next(7);
    x.leave(0);
    due("one left on that DAY: a half", x.close(0), 0);
    due("for it", x.electionOf(0, 4), 1);
    due("against it", x.electionOf(0, 5), 1);
    x = school("", 0, 0, 0);
    open(x, "++-");
    x.leave(0);
    x.leave(1);
    x.next(7);
    due("two left ahead of that DAY", x.close(0), 0);
    due("for it", x.electionOf(0, 4), 0);
    x = school("", 0, 0, 0);
    open(x, "++-");
    x.next(7);
    x.close(0);
    x.next(1);
    x.leave(0);
    due("one left the DAY behind", x.electionOf(0, 4), 2);
    due("carried", x.electionOf(0, 0), 1);
    x = school("", 0);
    open(x, "+");
    x.leave(0);
    due("nobody of them is there", x.close(0), 0);
  }

  private static void byHeads() {
    term("IV", "carried, if those for it are more than N hundredths (part; 50 without) of all that were cast");
    due("no STATUTE, a half", outcome("", "+-"), 0);
    due("no STATUTE, more", outcome("", "++-"), 1);
    due("no LINE part, a half", outcome("turn 1;", "+-"), 0);
    due("no LINE part, more", outcome("turn 1;", "++-"), 1);
    due("part 25, a fourth", outcome("part 25;", "+---"), 0);
    due("part 24, a fourth", outcome("part 24;", "+---"), 1);
    due("part 66, two thirds", outcome("part 66;", "++-"), 1);
    due("part 67, two thirds", outcome("part 67;", "++-"), 0);
    due("part 0, one of 80", outcome("part 0;", "+" + "-".repeat(79)), 1);
    due("part 0, none", outcome("part 0;", "-"), 0);
    due("part 99, all of 80", outcome("part 99;", "+".repeat(80)), 1);
    due("part 99, 79 of 80", outcome("part 99;", "+".repeat(79) + "-"), 0);
    due("part 98, 79 of 80", outcome("part 98;", "+".repeat(79) + "-"), 1);
    due("part 100, all", outcome("part 100;", "+".repeat(80)), 0);
    due("part 9999, all", outcome("part 9999;", "+".repeat(80)), 0);
    due("those without a vote are not of all", outcome("", "+     "), 1);
    term("IV", "and one at least was");
    due("none was cast", outcome("", "  "), 0);
    due("none was cast, part 0", outcome("part 0;", "  "), 0);
    due("nobody is there", outcome("part 0;", ""), 0);
  }

  private static void byNations() {
    term("IV", "is for it, if in it votes for it are more than those against, against it, if fewer");
    NationSchool x = school(FOUR + "vote nations;", 0, 0, 0, 1, 1, 2, 2, 2, 3, 4);
    closed(x, "++-+-+-- +");
    due("NATIONS for it", x.electionOf(0, 2), 1);
    due("NATIONS against it", x.electionOf(0, 3), 4);
    term("IV", "carried, if more NATIONS are for it than against");
    due("one each", x.electionOf(0, 0), 0);
    String text = FOUR + "vote nations;";
    due("no NATION", outcomeOfLands(text, ""), 0);
    due("one for it", outcomeOfLands(text, "+", 0), 1);
    due("one against it", outcomeOfLands(text, "-", 0), 0);
    due("two and two", outcomeOfLands(text, "++--", 0, 1, 2, 3), 0);
    due("two and one", outcomeOfLands(text, "++- ", 0, 1, 2, 3), 1);
    due("three and one", outcomeOfLands(text, "+++-", 0, 1, 2, 3), 1);
    due("one and one, one split", outcomeOfLands(text, "+-+-", 0, 1, 2, 2), 0);
    due("PERSONS of no NATION", outcomeOfLands(text, "+++", 4, 4, 4), 0);
    due("part does not count", outcomeOfLands(text + "part 100;", "+", 0), 1);
    due("few heads", outcomeOfLands(text, "++---", 0, 1, 2, 2, 2), 1);
    term("IV", "(of the PERSONS as known that DAY)");
    NationSchool y = school(text, 0);
    y.next(1);
    closed(y, "+");
    Check.due("passed by 0", Check.statute(y, "nation 2; vote nations;", 0), 1);
    y.oath(0, 0);
    closed(y, " +");
    due("by what is known", y.electionOf(1, 2), 4);
    y.next(1);
    y.undo(0);
    due("it is of another NATION since", y.of(1, 2), 0);
    due("as it was known", y.electionOf(1, 2), 4);
  }

  private static void byWhichStatute() {
    term("IV", "By the STATUTE in force that DAY, as known then.");
    NationSchool x = school("part 0;", 0, 0);
    open(x, "+-");
    x.next(1);
    Check.statute(x, "part 50;");
    due("told that DAY", x.close(0), 0);
    closed(x, "+-");
    Check.statute(x, "part 0;");
    due("told behind it, that DAY", x.electionOf(1, 0), 0);
    due("the next one", x.close(open(x, "+-")), 1);
  }

  private static void whatOneTwoThree() {
    term("IV", "What 1 is always told by heads and part");
    NationSchool x = school(FOUR + "vote nations; part 60;", 0, 0, 0, 1, 2);
    closed(x, "+++--");
    due("not carried by NATIONS", x.electionOf(0, 0), 0);
    due("nor by heads: 60 hundredths", x.electionOf(0, 1), 0);
    x = school(FOUR + "vote nations; part 59;", 0, 0, 0, 1, 2);
    closed(x, "+++--");
    due("not carried by NATIONS", x.electionOf(0, 0), 0);
    due("by heads it would be", x.electionOf(0, 1), 1);
    term("IV", "what 2, 3 by NATIONS");
    x = school(FOUR, 0, 0, 0, 1, 2);
    closed(x, "+++--");
    due("carried by heads", x.electionOf(0, 0), 1);
    due("NATIONS for it", x.electionOf(0, 2), 1);
    due("NATIONS against it", x.electionOf(0, 3), 6);
  }

  private static void under() {
    term("IV", "the votes that counted, by its vote and part, the NATIONS of those who voted by it");
    NationSchool x = school(FOUR, 0, 0, 1, 2);
    open(x, "+++-");
    x.leave(0);
    x.close(0);
    Check.statute(x, "part 66;");
    Check.statute(x, "part 67;");
    Check.statute(x, "vote nations; nation 0 if land=0;");
    Check.statute(x, "vote nations; nation 0 if land=2;");
    Check.statute(x, "vote nations; nation 3;");
    due("two of three by 66", x.under(0, 1), 1);
    due("two of three by 67", x.under(0, 2), 0);
    due("one NATION for it", x.under(0, 3), 1);
    due("one NATION against it", x.under(0, 4), 0);
    due("all of one NATION", x.under(0, 5), 1);
    term("IV", "LANDS of their oaths' DAYS, as known on the DAY on which it was closed");
    NationSchool y = school("nation 0 if land=0; vote nations;", 1);
    y.next(10);
    y.oath(1, 0);
    y.next(10);
    y.moved(1, 0);
    closed(y, "++");
    due("a word behind the oaths", y.under(0, 0), 0);
    NationSchool z = school("nation 0 if land=0; vote nations;");
    z.next(10);
    z.moved(1, 0);
    z.oath(1, 0);
    closed(z, "+");
    due("a word of the oath's DAY", z.under(0, 0), 1);
    z.next(1);
    z.moved(1, 1);
    due("a word told behind that DAY", z.under(0, 0), 1);
  }

  private static int swingOf(String text, String votes, int... lands) {
    NationSchool x = school(text, lands);
    return x.swing(closed(x, votes));
  }

  private static void swing() {
    term("IV", "SWING goes by the STATUTE by which it was closed (votes that were cast alone");
    due("no votes", swingOf("", ""), NONE);
    due("one for it", swingOf("", "+", 0), 1);
    due("one against it", swingOf("", "-", 0), 1);
    due("all of 80 for it", swingOf("", "+".repeat(80), new int[80]), 40);
    due("all of 80 against it", swingOf("", "-".repeat(80), new int[80]), 41);
    due("part 100: not by any", swingOf("part 100;", "-".repeat(80), new int[80]), NONE);
    due("part 0: all of them", swingOf("part 0;", "+".repeat(80), new int[80]), 80);
    due("who did not vote does not count", swingOf("part 99;", "+-      ", new int[8]), 1);
    NationSchool x = school("part 50;", 0, 0, 0);
    closed(x, "++-");
    Check.statute(x, "part 0;");
    due("a later STATUTE does not count", x.swing(0), 1);
    String text = FOUR + "vote nations;";
    due("of no NATION: not by any", swingOf(text, "+++", 4, 4, 4), NONE);
    due("one split", swingOf(text, "+-", 0, 0), 1);
    due("a NATION of three made split is not to be had", swingOf(text, "+++", 0, 0, 0), 2);
    due("a NATION of two made split", swingOf(text, "++", 0, 0), 1);
    due("two of two NATIONS", swingOf(text, "++++", 0, 0, 1, 1), 2);
    due("one against, one of it for", swingOf(text, "--", 0, 0), 2);
    term("IV", "of those who were there; NATIONS as counted");
    NationSchool y = school(text, 0, 0, 0, 1);
    open(y, "+++-");
    y.leave(0);
    y.leave(1);
    y.close(0);
    due("one each, one of them is enough", y.swing(0), 1);
    NationSchool z = school(text, 0, 0);
    closed(z, "++");
    z.moved(0, 4);
    due("of no NATION since", z.of(0, 0), NONE);
    due("as counted", z.swing(0), 1);
  }

  private static void whatHangs() {
    term("IV", "on a STATUTE the ELECTIONS that were closed by it (as it was in force, as known then)");
    NationSchool x = school("", 0);
    closed(x, "+");
    Check.due("passed by 0", Check.statute(x, "turn 1;", 0), 0);
    int open = open(x, "+");
    x.next(1);
    closed(x, "+");
    Check.due("passed by none", Check.statute(x, "turn 2;", NONE), 1);
    x.close(open);
    due("0, its STATUTE, and 2 that was closed by it", x.undo(0), 3);
    due("closed by another one", x.electionOf(open, 7), 0);
    due("closed by it", x.electionOf(2, 7), 1);
    NationSchool v = school("", 0);
    closed(v, "+");
    Check.due("passed by 0", Check.statute(v, "", 0), 0);
    open(v, "+");
    due("an open one hangs on none", v.undo(0), 2);
    due("it may be closed", v.close(1), 1);
    due("it is not VOID", v.electionOf(1, 7), 0);
    term("IV", "VOID becomes all that hangs on what became VOID (also when it was not carried)");
    NationSchool y = school("", 0);
    closed(y, "+");
    Check.due("passed by 0", Check.statute(y, "", 0), 0);
    closed(y, "-");
    due("one not carried", y.electionOf(1, 0), 0);
    due("0, its STATUTE, and 1", y.undo(0), 3);
    due("VOID", y.electionOf(1, 7), 1);
    NationSchool z = school("", 0);
    closed(z, "-");
    due("one not carried itself", z.undo(0), 1);
    term("IV", "what was VOID before is not counted again");
    NationSchool w = school("", 0);
    closed(w, "+");
    Check.due("passed by 0", Check.statute(w, "", 0), 0);
    closed(w, "+");
    Check.due("passed by 1", Check.statute(w, "", 1), 1);
    closed(w, "+");
    due("1, its STATUTE, and 2", w.undo(1), 3);
    due("0 and its STATUTE", w.undo(0), 2);
  }

  private static void voidAsKnown() {
    term("IV", "What became VOID is so, as known from that DAY on, for all DAYS.");
    NationSchool x = school("nation 0;", 0);
    closed(x, "+");
    Check.due("passed by 0", Check.statute(x, "nation 1;", 0), 1);
    x.oath(0, 0);
    x.next(3599);
    x.undo(0);
    due("as known the DAY ahead", x.of(1, 3598), 1);
    due("as known that DAY", x.of(1, 3599), 0);
    due("for DAY 0, as known the DAY ahead", x.force(0, 3598), 1);
    due("for DAY 0, as known that DAY", x.force(0, 3599), 0);
  }

  // ---- V

  private static void turns() {
    term("V", "turn of the STATUTE in force on that DAY, as known; 3 without");
    NationSchool x = school(FOUR, 0, 1, 2, 3);
    due("DAY 89", x.rector(89, 0), 0);
    due("DAY 90", x.rector(90, 0), 1);
    term("V", "are counted from DAY 0 on: turn k = DAY / (30 N)");
    x.next(40);
    Check.statute(x, FOUR + "turn 1;");
    due("the DAY ahead", x.rector(39, 40), 0);
    due("that DAY is of turn 1", x.rector(40, 40), 1);
    due("DAY 59", x.rector(59, 40), 1);
    due("DAY 60", x.rector(60, 40), 2);
    due("known the DAY ahead", x.rector(60, 39), 0);
    x = school(FOUR + "turn 99;", 0, 1, 2, 3);
    due("DAY 2969", x.rector(2969, 0), 0);
    due("DAY 2970", x.rector(2970, 0), 1);
    due("the last DAY", x.rector(3599, 0), 1);
    term("V", "from k modulo 4 on the first (up by one, behind 3 comes 0) that has PERSONS there on that DAY");
    x = school(FOUR + "turn 1;", 0, 1, 2, 3);
    due("turn 3", x.rector(119, 0), 3);
    due("turn 4", x.rector(120, 0), 0);
    due("turn 119", x.rector(3599, 0), 3);
    x = school(FOUR + "turn 1;", 0, 2);
    due("turn 1 goes up to 2", x.rector(30, 0), 2);
    due("turn 3 goes to 0", x.rector(90, 0), 0);
    x = school(FOUR + "turn 1;", 2);
    due("turn 3 goes by 0, 1 to 2", x.rector(90, 0), 2);
    x.next(10);
    x.leave(0);
    due("the DAY ahead of its leaving", x.rector(9, 10), 2);
    term("V", "none, if none has");
    due("the DAY on which it left", x.rector(10, 10), NONE);
    due("PERSONS of no NATION", school(FOUR, 4).rector(0, 0), NONE);
    due("nobody", school(FOUR).rector(0, 0), NONE);
    due("no STATUTE", school("", 0).rector(0, 0), NONE);
  }

  // ---- VI

  private static int rent(int school, int town, int third) {
    NationSchool x = new NationSchool();
    x.house(1, school, town);
    return third == NONE ? x.rent(0) : x.appeal(0, third);
  }

  private static void rents() {
    term("VI", "half of what both taxers told together (cut)");
    due("0, 0", rent(0, 0, NONE), 0);
    due("0, 1", rent(0, 1, NONE), 0);
    due("1, 1", rent(1, 1, NONE), 1);
    due("999, 998", rent(999, 998, NONE), 998);
    due("999, 999", rent(999, 999, NONE), 999);
    term("VI", "with a third one the middle one of all three");
    due("10, 20, 9", rent(10, 20, 9), 10);
    due("10, 20, 10", rent(10, 20, 10), 10);
    due("10, 20, 11", rent(10, 20, 11), 11);
    due("10, 20, 20", rent(10, 20, 20), 20);
    due("20, 10, 21", rent(20, 10, 21), 20);
    due("20, 10, 0", rent(20, 10, 0), 10);
    due("10, 10, 999", rent(10, 10, 999), 10);
    due("0, 999, 0", rent(0, 999, 0), 0);
  }

  private static void lodged() {
    term("VI", "PERSONS who are there TODAY, by RANK (the highest first), of like RANK by number");
    NationSchool x = school("");
    int[] ranks = {2, 0, 3, 3, 2};
    for (int p = 0; p < ranks.length; p++) {
      x.oath(0, ranks[p]);
    }
    x.house(1, 1, 1);
    for (int p = 0; p < ranks.length; p++) {
      x.wish(p, 0);
    }
    int[] order = {2, 3, 0, 4, 1};
    for (int p : order) {
      due("one room", x.lodge(), 1);
      due("lodged(" + p + ")", x.lodged(p), 0);
      x.leave(p);
    }
    due("nobody is there", x.lodge(), 0);
    term("VI", "each into the first HOUSE of its wishes that has a room left");
    NationSchool y = school("", 0, 0, 0, 0, 0);
    y.house(1, 1, 1);
    y.house(2, 1, 1);
    y.wish(0, 1);
    y.wish(0, 0);
    y.wish(1, 1);
    y.wish(2, 1);
    y.wish(2, 0);
    y.wish(3, 1);
    due("lodge", y.lodge(), 3);
    int[] want = {1, 1, 0, NONE, NONE};
    for (int p = 0; p < want.length; p++) {
      due("lodged(" + p + ")", y.lodged(p), want[p]);
    }
    NationSchool z = school("", new int[10]);
    z.house(9, 1, 1);
    for (int p = 0; p < 10; p++) {
      z.wish(p, 0);
    }
    due("nine rooms", z.lodge(), 9);
    due("the ninth", z.lodged(8), 0);
    due("the tenth", z.lodged(9), NONE);
  }

  // ---- VII

  private static NationSchool worths(int... worths) {
    NationSchool x = school("", new int[worths.length]);
    for (int p = 0; p < worths.length; p++) {
      x.worth(p, worths[p]);
    }
    return x;
  }

  private static void standingSets() {
    term("VII", "each of it wants no more others to go than there are in it besides");
    due("alone, wants 0", worths(0).judge(1), 0);
    due("alone, wants 1", worths(1).judge(1), 1);
    due("two, want 1", worths(1, 1).judge(3), 0);
    due("two, one wants 2", worths(1, 2).judge(3), 1);
    term("VII", "each not of it wants more than it has");
    due("nobody goes, one wants 0", worths(0).judge(0), 2);
    due("nobody goes, one wants 1", worths(1).judge(0), 0);
    due("one goes, another wants 1", worths(0, 1).judge(1), 2);
    due("one goes, another wants 2", worths(0, 2).judge(1), 0);
    due("nobody is there", worths().judge(0), 0);
  }

  private static void theMost() {
    term("VII", "the one who wants the most others (of several the highest number)");
    NationSchool x = worths(9, 8, 9, 8);
    int[] want = {2, 0, 3, 1, NONE};
    for (int k = 0; k < want.length; k++) {
      due("returns(" + k + ")", x.returns(k), want[k]);
    }
    due("nobody is left", x.exodus(0), 0);
    term("VII", "of those who want more than there are besides, returns");
    due("all of three want 2", worths(2, 2, 2).exodus(0), 3);
    due("none of these returns", worths(2, 2, 2).returns(0), NONE);
    due("one of three wants 3", worths(3, 2, 0).exodus(0), 1);
    due("it returns", worths(3, 2, 0).returns(0), 0);
    due("so the next does", worths(3, 2, 0).returns(1), 1);
    due("nobody is there", worths().exodus(0), 0);
    int[] all = new int[80];
    java.util.Arrays.fill(all, 79);
    due("80 who want 79", worths(all).exodus(0), 80);
    all[0] = 80;
    due("one who wants 80: none stays away", worths(all).exodus(0), 0);
    due("the last who returns", worths(all).returns(79), 1);
    due("no 81st returns", worths(all).returns(80), NONE);
  }

  private static void theFewest() {
    term("VII", "from nobody, again and again all who want no more than go");
    due("nobody is there", worths().exodus(1), 0);
    due("all want 1", worths(1, 1).exodus(1), 0);
    due("one wants 0", worths(0).exodus(1), 1);
    due("one by one", worths(3, 2, 1, 0).exodus(1), 4);
    due("a gap", worths(3, 3, 1, 0).exodus(1), 2);
    due("who is behind the gap", worths(3, 3, 1, 0).goes(0, 1), 0);
    due("who is ahead of it", worths(3, 3, 1, 0).goes(2, 1), 1);
    int[] all = new int[80];
    for (int p = 0; p < 80; p++) {
      all[p] = 79 - p;
    }
    due("80, one by one", worths(all).exodus(1), 80);
  }

  // ---- VIII

  private static NationSchool books(int[][] first, int[][] second) {
    NationSchool x = new NationSchool();
    for (int[] e : first) {
      x.entry(0, e[0], e[1], e[2]);
    }
    for (int[] e : second) {
      x.entry(1, e[0], e[1], e[2]);
    }
    return x;
  }

  /** Of the line 500, mark 5, LAND 5 to another one. */
  private static int sum(int year, int mark, int land) {
    return books(new int[][] {{500, 5, 5}}, new int[][] {{year, mark, land}}).join();
  }

  private static void likeness() {
    term("VIII", "5 if the mark is the same, 3 if the LAND is, 4 less what the years differ by (0 at least)");
    due("all the same", sum(500, 5, 5), 12);
    due("3 years more", sum(503, 5, 5), 9);
    due("4 years more", sum(504, 5, 5), 8);
    due("5 years less", sum(495, 5, 5), 8);
    due("the farthest years", books(new int[][] {{0, 5, 5}}, new int[][] {{999, 5, 5}}).join(), 8);
    due("the mark and 3 years less", sum(497, 5, 6), 6);
    term("VIII", "two that come to less than 5 can't be joined");
    due("the mark alone", sum(504, 5, 6), 5);
    due("LAND and 2 years more: 5", sum(502, 6, 5), 5);
    due("LAND and 3 years more: 4", sum(503, 6, 5), 0);
    due("the year alone: 4", sum(500, 6, 6), 0);
    NationSchool x = books(new int[][] {{500, 5, 5}}, new int[][] {{500, 6, 6}});
    due("nothing to join", x.join(), 0);
    due("it is joined to none", x.joined(0), NONE);
    due("an empty BOOK 0", books(new int[][] {}, new int[][] {{1, 1, 1}}).join(), 0);
    due("an empty BOOK 1", books(new int[][] {{1, 1, 1}}, new int[][] {}).join(), 0);
  }

  private static void theFirstJoining() {
    term("VIII", "lines of BOOK 0 to unlike lines of BOOK 1, or to none");
    int[] a = {1, 1, 1};
    NationSchool x = books(new int[][] {a, a}, new int[][] {a});
    due("one line for two", x.join(), 12);
    due("the first of them", x.joined(0), 0);
    due("none is left for the second", x.joined(1), NONE);
    term("VIII", "of several the first, line by line (the lesser line of BOOK 1, none last)");
    due("two joinings come to it", x.rivals(), 2);
    NationSchool y = books(new int[][] {a, a}, new int[][] {a, a, a});
    due("join", y.join(), 24);
    due("the lesser line", y.joined(0), 0);
    due("then the next", y.joined(1), 1);
    due("six joinings", y.rivals(), 6);
    // The greatest sum wants line 0 alone, or line 1 with it: 7 and 5 come to 12 too.
    NationSchool z = books(new int[][] {{500, 6, 1}, {500, 5, 1}}, new int[][] {{500, 5, 1}, {504, 5, 2}});
    due("join", z.join(), 12);
    due("line 0 is joined, though it need not be", z.joined(0), 0);
    due("line 1", z.joined(1), 1);
  }

  private static void theGreatestSum() {
    term("VIII", "the greatest sum");
    NationSchool x = books(new int[][] {{500, 5, 1}}, new int[][] {{600, 5, 2}, {500, 5, 1}, {501, 5, 1}});
    due("join", x.join(), 12);
    due("not the first that can be joined", x.joined(0), 1);
    due("rivals", x.rivals(), 1);
    // Line 0 joined to line 1 leaves two ways for lines 1 and 2, but they come to 10 alone.
    NationSchool y = books(new int[][] {{500, 5, 1}, {502, 9, 1}, {502, 9, 1}},
        new int[][] {{500, 5, 1}, {600, 5, 2}});
    due("join", y.join(), 12);
    due("one way", y.rivals(), 1);
    due("joined(0)", y.joined(0), 0);
    due("joined(1)", y.joined(1), NONE);
    int[][] seven = new int[7][];
    for (int i = 0; i < 7; i++) {
      seven[i] = new int[] {100 * i, i, i};
    }
    int[][] others = seven.clone();
    others[6] = new int[] {999, 99, 9};
    NationSchool z = books(seven, others);
    due("six of seven", z.join(), 72);
    due("the last of them", z.joined(5), 5);
    due("the seventh", z.joined(6), NONE);
  }
}
