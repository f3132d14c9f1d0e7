/** Edges that the Terms of the document name: I to III (days, texts, coins). */
public final class EdgesOfTermsTest extends EdgeCases {
  public static void main(String[] args) {
    days();
    villagesAndLands();
    persons();
    asKnown();
    slots();
    tokens();
    linesAndConds();
    boundsOfNumbers();
    theFirstFault();
    whatCantStand();
    tooMany();
    inForce();
    theLastLineCounts();
    near();
    claims();
    fees();
    masters();
    Check.finish();
  }

  private static final String FOUR =
      "nation 0 if land=0; nation 1 if land=1; nation 2 if land=2; nation 3 if land=3;";

  /** VILLAGE i is of LAND i; a PERSON for each LAND that is told. */
  private static NationSchool school(String text, int... lands) {
    NationSchool x = new NationSchool();
    for (int land = 0; land < 5; land++) {
      x.village(10 * land, 10 * land, land);
    }
    if (!text.isEmpty()) {
      Check.statute(x, text);
    }
    for (int land : lands) {
      x.oath(land, 0);
    }
    return x;
  }

  // ---- I

  private static void days() {
    term("I", "DAYS 0 .. 3599");
    NationSchool x = school(FOUR, 0);
    due("the first", x.heads(0, 0, 0), 1);
    due("the last", x.heads(0, 3599, 3599), 1);
    due("below the first", x.heads(0, -1, 0), -2);
    due("behind the last", x.heads(0, 3600, 0), -2);
    due("far below", x.heads(0, MIN, 0), -2);
    due("far behind", x.heads(0, MAX, 0), -2);
    term("I", "TODAY (0 at first)");
    due("count(0)", new NationSchool().count(0), 0);
    term("I", "a MONTH has 30");
    x = school(FOUR + "turn 1;", 0, 1);
    due("rector(29, 0)", x.rector(29, 0), 0);
    due("rector(30, 0)", x.rector(30, 0), 1);
    term("I", "a YEAR 360");
    x = school("fee 0 5;", 0);
    due("fees(0, 359, 0)", x.fees(0, 359, 0), 5);
    due("fees(0, 360, 0)", x.fees(0, 360, 0), 10);
    term("I", "NATIONS 0 .. 3");
    for (int nation = 0; nation <= 3; nation++) {
      due("purse(" + nation + ")", x.purse(nation), 0);
    }
    due("purse(-1)", x.purse(-1), -2);
    due("purse(4)", x.purse(4), -2);
  }

  private static void villagesAndLands() {
    term("I", "VILLAGES 0 .., at most 40, at x, y (0 .. 99)");
    NationSchool x = new NationSchool();
    int[][] corners = {{0, 0}, {99, 0}, {0, 99}, {99, 99}};
    for (int i = 0; i < 40; i++) {
      due("the next number", x.village(corners[i % 4][0], corners[i % 4][1], 0), i);
    }
    due("a 41st", x.village(0, 0, 0), -3);
    due("there are 40", x.count(1), 40);
    term("I", "of a LAND (0 .. 9;");
    x = new NationSchool();
    due("LAND 0", x.village(1, 1, 0), 0);
    due("LAND 9", x.village(1, 1, 9), 1);
    due("LAND -1", x.village(1, 1, -1), -2);
    due("LAND 10", x.village(1, 1, 10), -2);
    due("there are 2", x.count(1), 2);
    term("I", "the one told with it on all DAYS, also those ahead");
    x = school(FOUR);
    x.next(100);
    x.village(0, 0, 3);
    due("on the first DAY, known then", x.nation(5, 0, 0), 3);
    due("on the DAY ahead", x.nation(5, 99, 100), 3);
    due("on the last DAY", x.nation(5, 3599, 0), 3);
    term("I", "others from DAYS on on which that was told");
    x.moved(5, 2);
    due("the DAY ahead", x.nation(5, 99, 100), 3);
    due("that DAY", x.nation(5, 100, 100), 2);
    due("the last DAY", x.nation(5, 3599, 3599), 2);
    x.moved(2, 3);
    due("a VILLAGE ahead of it stays", x.nation(1, 100, 100), 1);
    due("a VILLAGE behind it stays", x.nation(3, 100, 100), 3);
    due("the first one stays", x.nation(0, 3599, 3599), 0);
  }

  private static void persons() {
    term("I", "PERSONS 0 .., at most 80");
    NationSchool x = school(FOUR);
    for (int i = 0; i < 80; i++) {
      due("the next number", x.oath(i % 5, i % 4), i);
    }
    due("an 81st", x.oath(0, 0), -3);
    due("there are 80", x.count(2), 80);
    term("I", "a RANK (0 .. 3)");
    x = school(FOUR);
    due("RANK -1", x.oath(0, -1), -2);
    due("RANK 0", x.oath(0, 0), 0);
    due("RANK 3", x.oath(0, 3), 1);
    due("RANK 4", x.oath(0, 4), -2);
    term("I", "there on a DAY is one from its oath's DAY on");
    x = school(FOUR);
    x.next(50);
    x.oath(1, 0);
    due("the DAY ahead of the oath", x.heads(1, 49, 50), 0);
    due("the oath's DAY", x.heads(1, 50, 50), 1);
    due("the last DAY", x.heads(1, 3599, 50), 1);
    term("I", "up to the DAY ahead of its leaving");
    x.next(50);
    x.leave(0);
    due("the DAY ahead of its leaving", x.heads(1, 99, 100), 1);
    due("the DAY on which it left", x.heads(1, 100, 100), 0);
    x.oath(1, 0);
    x.leave(1);
    due("it left on its oath's DAY", x.heads(1, 100, 100), 0);
    due("it left on its oath's DAY, the DAY ahead", x.heads(1, 99, 100), 1);
  }

  private static void asKnown() {
    term("I", "As known on a DAY (0 .. 3599) is what was told on DAYS up to it");
    NationSchool x = school(FOUR);
    x.next(3599);
    x.oath(0, 0);
    x.moved(0, 3);
    due("LANDS, known the DAY ahead", x.nation(0, 3599, 3598), 0);
    due("LANDS, known that DAY", x.nation(0, 3599, 3599), 3);
    Check.statute(x, "nation 1;");
    due("STATUTES, known the DAY ahead", x.force(3599, 3598), 0);
    due("STATUTES, known that DAY", x.force(3599, 3599), 1);
    due("known on DAY -1", x.force(3599, -1), -2);
    due("known on DAY 3600", x.force(3599, 3600), -2);
    term("I", "PERSONS are as they are now");
    due("of a DAY behind the one as known", x.heads(0, 3599, 0), 1);
    x.leave(0);
    due("gone, as known ahead of that too", x.heads(0, 3599, 0), 0);
  }

  private static void slots() {
    term("I", "SLOTS 0 .. 3 have rows of numbers of 1, 2, 4 or 8 bytes (WIDTH 0 .. 3), at most 60, or nothing.");
    NationSchool x = new NationSchool();
    for (int slot = 0; slot < 4; slot++) {
      due("nothing", x.write(slot, 0, 0), -6);
      due("the longest row", x.row(slot, slot, 60), 0);
      due("its last number", x.write(slot, 59, 1), 0);
      due("behind its last", x.write(slot, 60, 1), -7);
      due("no numbers", x.row(slot, slot, 0), 0);
      due("it has none", x.write(slot, 0, 1), -7);
    }
    due("SLOT -1", x.row(-1, 0, 1), -2);
    due("SLOT 4", x.row(4, 0, 1), -2);
    due("WIDTH -1", x.row(0, -1, 1), -2);
    due("WIDTH 4", x.row(0, 4, 1), -2);
    due("61 numbers", x.row(0, 0, 61), -2);
  }

  // ---- II

  /** The text is a STATUTE of a school with five VILLAGES. */
  private static void good(String text) {
    NationSchool x = school("");
    due("\"" + text + "\" is one", Check.statute(x, text, NONE), 0);
    due("fault(0) of \"" + text + "\"", x.fault(0), 0);
    due("fault(1) of \"" + text + "\"", x.fault(1), NONE);
  }

  private static void bad(String text, int fault, int place) {
    NationSchool x = school("");
    due("\"" + text + "\" is none", Check.statute(x, text, NONE), -4);
    due("fault(0) of \"" + text + "\"", x.fault(0), fault);
    due("fault(1) of \"" + text + "\"", x.fault(1), place);
    due("STATUTES behind \"" + text + "\"", x.count(3), 0);
  }

  private static void tokens() {
    term("II", "blanks (32, 10) aside");
    good("  \n\n turn \n 1 \n ; \n");
    for (int sign = 0; sign < 256; sign++) {
      boolean isBlank = sign == 32 || sign == 10;
      boolean isToken = sign >= 'a' && sign <= 'z' || sign >= '0' && sign <= '9' || "<>=;".indexOf(sign) >= 0;
      if (isBlank) {
        good("turn 1;" + (char) sign);
        good((char) sign + "turn" + (char) sign + "1;");
      } else if (!isToken) {
        bad("turn 1;" + (char) sign, 1, 7);
        bad("turn" + (char) sign + "1;", 1, 4);
        bad("tu" + (char) sign + "rn 1;", 1, 0);
      } else {
        bad("turn 1;" + (char) sign, 1, 7);
      }
    }
    term("II", "the longest that begin there");
    good("nation0;fee0 1;turn1;");
    bad("nations 1;", 1, 0);
    bad("turn 1 2;", 1, 7);
    good("turn 12;");
    bad("voteheads;", 1, 0);
    bad("turn 1a;", 1, 6);
    good("nation 1if x=1and y=1;");
    bad("nation 1 ifx=1;", 1, 9);
    term("II", "words (a .. z), numbers (digits), the signs < > = ;");
    bad("turn `;", 1, 5);
    bad("turn {;", 1, 5);
    bad("turn /;", 1, 5);
    bad("turn 1:", 1, 6);
    bad("turn 1?", 1, 6);
    bad("nation 1 if x ? 1;", 1, 14);
    bad("nation 1 if x : 1;", 1, 14);
    bad("TURN 1;", 1, 0);
    bad("turn 1\u00bb", 1, 6);
    bad("\u00f4urn 1;", 1, 0);
  }

  private static void linesAndConds() {
    term("II", "TEXT: {LINE ;}, 16 at most");
    good("");
    good("turn 1;");
    good("turn 1;".repeat(16));
    bad("turn 1;".repeat(17), 3, 112);
    bad("turn 1", 1, 6);
    bad(";", 1, 0);
    bad("turn 1;;", 1, 7);
    term("II", "three at most");
    good("nation 1;");
    good("nation 1 if x=1;");
    good("nation 1 if x=1 and x=1 and x=1;");
    bad("nation 1 if x=1 and x=1 and x=1 and x=1;", 3, 36);
    bad("nation 1 if;", 1, 11);
  }

  private static void boundsOfNumbers() {
    term("II", "N of a nation 0 .. 3");
    good("nation 0; nation 3;");
    bad("nation 4;", 2, 7);
    term("II", "RANK 0 .. 3");
    good("fee 0 1; fee 3 1;");
    bad("fee 4 1;", 2, 4);
    term("II", "turn 1 .. 99");
    good("turn 1; turn 99;");
    bad("turn 0;", 2, 5);
    bad("turn 100;", 2, 5);
    term("II", "VILLAGE one that there is");
    good("nation 0 if near 0 1; nation 1 if near 4 1;");
    bad("nation 0 if near 5 1;", 2, 17);
    NationSchool x = new NationSchool();
    due("of no VILLAGES", Check.statute(x, "nation 0 if near 0 1;", NONE), -4);
    due("fault(0) of no VILLAGES", x.fault(0), 2);
    due("fault(1) of no VILLAGES", x.fault(1), 17);
    term("II", "others 0 .. 9999");
    good("fee 0 0; fee 0 9999; part 0; part 9999;");
    good("nation 0 if land=0; nation 0 if land=9999; nation 0 if near 0 0; nation 0 if near 0 9999;");
    good("nation 0 if x<0 and x=0 and x>0; nation 0 if x<9999 and x=9999 and x>9999;");
    good("nation 0 if y<0 and y=0 and y>0; nation 0 if y<9999 and y=9999 and y>9999;");
    bad("fee 0 10000;", 2, 6);
    bad("part 10000;", 2, 5);
    bad("nation 0 if land=10000;", 2, 17);
    bad("nation 0 if near 0 10000;", 2, 19);
    bad("nation 0 if x<10000;", 2, 14);
    bad("nation 0 if x=10000;", 2, 14);
    bad("nation 0 if y>10000;", 2, 14);
    term("II", "2 a number out of its bounds");
    // Numbers that would come back into their bounds where they are cut to 32 or 64 bits.
    bad("nation 4294967296;", 2, 7);
    bad("turn 4294967297;", 2, 5);
    bad("part 18446744073709551616;", 2, 5);
    bad("nation 0 if near 4294967296 1;", 2, 17);
    bad("part " + "9".repeat(590) + ";", 2, 5);
    good("part " + "0".repeat(590) + "7;");
  }

  private static void theFirstFault() {
    term("II", "the first by its place (a TOKEN's first byte; the end's)");
    bad("turn 0 foo;", 2, 5);
    bad("foo turn 0;", 1, 0);
    bad("fee 4 10000;", 2, 4);
    bad("nation 1 if x=1 and x=1 and x=1 and x=10000 foo", 3, 36);
    bad("turn 1;".repeat(15) + "turn 0;turn 1;", 2, 110);
    bad("turn 1;".repeat(16) + "turn 0; foo", 3, 112);
    bad("  turn  100;", 2, 8);
    bad("turn", 1, 4);
    bad("turn ", 1, 5);
    bad("turn 1 \n", 1, 8);
    bad(" ".repeat(596) + "turn", 1, 600);
    term("II", "of one place the least");
    // A number that can't stand there, and is beyond all bounds.
    bad("turn 1 99999;", 1, 7);
    bad("99999;", 1, 0);
    bad("turn 1;".repeat(16) + "99999;", 1, 112);
    bad("turn 1;".repeat(16) + "foo;", 1, 112);
    bad("nation 1 if x=1 and x=1 and x=1 and 99999", 1, 36);
  }

  private static void whatCantStand() {
    term("II", "1 a TOKEN that is none, or can't stand there");
    bad("turn 1 turn 2;", 1, 7);
    bad("vote;", 1, 4);
    bad("vote heads heads;", 1, 11);
    bad("vote nation;", 1, 5);
    bad("part;", 1, 4);
    bad("fee 1;", 1, 5);
    bad("nation;", 1, 6);
    bad("nation 1 not x=1;", 1, 9);
    bad("nation 1 and x=1;", 1, 9);
    bad("nation 1 if x=1 if x=1;", 1, 16);
    bad("nation 1 if not not x=1;", 1, 16);
    bad("nation 1 if land<1;", 1, 16);
    bad("nation 1 if land>1;", 1, 16);
    bad("nation 1 if x==1;", 1, 14);
    bad("nation 1 if x<=1;", 1, 14);
    bad("nation 1 if near 1;", 1, 18);
    bad("nation 1 if near=1 1;", 1, 16);
    bad("nation 1 if x=1 and;", 1, 19);
    bad("nation 1 if x=;", 1, 14);
    bad("fee 1 1 if x=1;", 1, 8);
  }

  private static void tooMany() {
    term("II", "3 a 17th LINE, at its word (if it may begin one)");
    String sixteen = "turn 1;".repeat(16);
    for (String word : new String[] {"nation", "fee", "vote", "part", "turn"}) {
      bad(sixteen + word, 3, 112);
      bad(sixteen + " \n" + word + " 1;", 3, 114);
    }
    for (String word : new String[] {"if", "not", "heads", "turns", "x", ";", "1", "=", "."}) {
      bad(sixteen + word, 1, 112);
    }
    good(sixteen + " \n ");
    term("II", "a fourth COND, at its not or word (if it can stand there)");
    String three = "nation 1 if x=1 and x=1 and x=1 and";
    for (String word : new String[] {"not", "land", "x", "y", "near"}) {
      bad(three + " " + word, 3, 36);
    }
    bad(three + " not not", 3, 36);
    for (String word : new String[] {"if", "and", "heads", "xx", ";", "1", "=", "."}) {
      bad(three + " " + word, 1, 36);
    }
    bad(three, 1, 35);
    bad("nation 1 if not x=1 and not x=1 and not x=1 and not x=1;", 3, 48);
  }

  private static void inForce() {
    term("II", "the STATUTE told last on DAYS up to it (and known) that is not VOID (as known)");
    NationSchool x = school("", 0);
    due("none was told", x.force(3599, 3599), NONE);
    x.next(20);
    Check.statute(x, "");
    due("the DAY ahead", x.force(19, 3599), NONE);
    due("known the DAY ahead", x.force(3599, 19), NONE);
    due("that DAY", x.force(20, 20), 0);
    Check.statute(x, "");
    due("the last of two of a DAY", x.force(20, 20), 1);
    x.next(1);
    x.call();
    x.vote(0, 0, true);
    x.close(0);
    Check.due("passed", Check.statute(x, "", 0), 2);
    x.next(9);
    x.undo(0);
    due("VOID, as known the DAY ahead", x.force(21, 29), 2);
    due("VOID, as known that DAY", x.force(21, 30), 1);
    due("VOID, on the last DAY", x.force(3599, 3599), 1);
    term("II", "by the word told last on DAYS up to both");
    NationSchool y = school(FOUR);
    y.next(5);
    y.moved(0, 1);
    y.moved(0, 2);
    y.next(1);
    y.moved(0, 3);
    due("of a DAY ahead of all", y.nation(0, 4, 6), 0);
    due("known ahead of all", y.nation(0, 6, 4), 0);
    due("the last of two of a DAY", y.nation(0, 5, 6), 2);
    due("the last of two of a DAY known", y.nation(0, 6, 5), 2);
    due("that DAY", y.nation(0, 6, 6), 3);
  }

  private static void theLastLineCounts() {
    term("II", "Of fee (by RANK), vote, part, turn the last LINE counts");
    NationSchool x = school("fee 0 1; fee 1 2; fee 0 3;", 0);
    x.oath(0, 1);
    x.oath(0, 2);
    due("fee 0", x.fees(0, 0, 0), 3);
    due("fee 1", x.fees(1, 0, 0), 2);
    due("no fee 2", x.fees(2, 0, 0), 0);
    due("the last may be 0", school("fee 0 5; fee 0 0;", 0).fees(0, 0, 0), 0);
    due("vote heads", carried("vote nations; vote heads;"), 1);
    due("vote nations", carried("vote heads; vote nations;"), 0);
    due("part", carried("part 70; part 50;"), 1);
    due("part", carried("part 50; part 70;"), 0);
    NationSchool y = school(FOUR + "turn 2; turn 1;", 0, 1);
    due("turn", y.rector(30, 0), 1);
    y = school(FOUR + "turn 1; turn 2;", 0, 1);
    due("turn", y.rector(30, 0), 0);
    due("turn", y.rector(60, 0), 1);
  }

  /** Two of LAND 0 for it, one of LAND 1 against it: 66 hundredths, and one NATION each. */
  private static int carried(String more) {
    NationSchool x = school("nation 0 if land=0; nation 1;" + more, 0, 0, 1);
    x.call();
    for (int p = 0; p < 3; p++) {
      x.vote(0, p, p < 2);
    }
    return x.close(0);
  }

  private static int isNear(int fromX, int fromY, int toX, int toY, int within) {
    NationSchool x = new NationSchool();
    x.village(fromX, fromY, 0);
    x.village(toX, toY, 0);
    Check.statute(x, "nation 1 if near 1 " + within + ";");
    return x.nation(0, 0, 0);
  }

  private static void near() {
    term("II", "(the squares of what x and y differ by, together, are N times N at most)");
    due("3, 4 within 5", isNear(10, 10, 13, 14, 5), 1);
    due("3, 4 within 4", isNear(10, 10, 13, 14, 4), NONE);
    due("-3, -4 within 5", isNear(10, 10, 7, 6, 5), 1);
    due("-3, -4 within 4", isNear(10, 10, 7, 6, 4), NONE);
    due("5, 1 within 5", isNear(10, 10, 15, 11, 5), NONE);
    due("5, 0 within 5", isNear(10, 10, 15, 10, 5), 1);
    due("0, 6 within 5", isNear(10, 10, 10, 16, 5), NONE);
    due("0, 0 within 0", isNear(10, 10, 10, 10, 0), 1);
    due("1, 0 within 0", isNear(10, 10, 11, 10, 0), NONE);
    due("99, 99 within 140", isNear(0, 0, 99, 99, 140), NONE);
    due("99, 99 within 141", isNear(0, 0, 99, 99, 141), 1);
    due("99, 99 within 9999", isNear(99, 0, 0, 99, 9999), 1);
  }

  private static void claims() {
    term("II", "A VILLAGE is claimed by each NATION of which some LINE holds");
    due("none", school("").claims(0, 0, 0), 0);
    due("no LINE holds", school("nation 1 if land=9;").claims(0, 0, 0), 0);
    due("all", school("nation 3; nation 2; nation 1; nation 0;").claims(0, 0, 0), 15);
    due("one by two LINES", school("nation 2; nation 2;").claims(0, 0, 0), 4);
    due("a LINE has its own CONDS alone",
        school("nation 1 if x=99; nation 2; nation 3 if land=0; nation 0 if land=1;").claims(0, 0, 0), 12);
    term("II", "its NATION is that of the first LINE nation that holds");
    due("none", school("").nation(0, 0, 0), NONE);
    due("no LINE holds", school("nation 1 if land=9;").nation(0, 0, 0), NONE);
    due("the first of several", school("nation 3; nation 0;").nation(0, 0, 0), 3);
    due("the first that holds", school("turn 1; nation 3 if land=9; nation 0;").nation(0, 0, 0), 0);
    due("the 16th", school("nation 3 if land=9;".repeat(15) + "nation 1;").nation(0, 0, 0), 1);
  }

  // ---- III

  private static void fees() {
    term("III", "on the DAY of the oath and each 360 DAYS later, as long as the PERSON is there");
    NationSchool x = school("fee 0 10;");
    x.next(3239);
    x.oath(0, 0);
    due("the DAY ahead", x.fees(0, 3238, 0), 0);
    due("that DAY", x.fees(0, 3239, 0), 10);
    due("359 DAYS later", x.fees(0, 3598, 0), 10);
    due("360 DAYS later, the last DAY", x.fees(0, 3599, 0), 20);
    x.next(360);
    x.leave(0);
    due("it left on that DAY", x.fees(0, 3599, 0), 10);
    x.oath(0, 0);
    x.leave(1);
    due("it left on its oath's DAY", x.fees(1, 3599, 0), 0);
    x = school("fee 0 10;", 0);
    due("from DAY 0 on", x.fees(0, 3599, 0), 100);
    x.next(361);
    x.leave(0);
    due("it left a DAY later", x.fees(0, 3599, 0), 20);
    term("III", "(0 without)");
    x = school("", 0);
    due("no STATUTE", x.fees(0, 3599, 3599), 0);
    x.next(360);
    Check.statute(x, "fee 1 10;");
    due("a STATUTE without that fee", x.fees(0, 3599, 3599), 0);
    Check.statute(x, "fee 0 9999;");
    due("from DAY 360 on", x.fees(0, 3599, 3599), 9 * 9999);
    due("known the DAY ahead", x.fees(0, 3599, 359), 0);
    term("III", "PURSES 0 .. 3 begin empty");
    for (int nation = 0; nation < 4; nation++) {
      due("purse(" + nation + ")", x.purse(nation), 0);
    }
  }

  private static void parts(NationSchool x, int coins, int... want) {
    int before = x.count(7);
    due("masters(" + coins + ")", x.masters(coins), before - coins);
    for (int nation = 0; nation < 4; nation++) {
      due("part(" + nation + ") of " + coins, x.part(nation), want[nation]);
    }
  }

  private static NationSchool withCoins(int... lands) {
    NationSchool x = school(FOUR, lands);
    for (int p = 0; p < lands.length; p++) {
      x.pay(p, 1000);
    }
    return x;
  }

  private static void masters() {
    term("III", "coins times these by all of them (cut)");
    parts(withCoins(0, 1), 10, 5, 5, 0, 0);
    parts(withCoins(3), 1, 0, 0, 0, 1);
    parts(withCoins(0, 4, 4, 2), 10, 5, 0, 5, 0);
    term("III", "the coins that lack one each from the NATIONS with the greatest rests");
    parts(withCoins(0, 1, 1), 10, 3, 7, 0, 0);
    parts(withCoins(0, 0, 1, 3, 3, 3, 3), 10, 3, 1, 0, 6);
    parts(withCoins(0, 1, 2, 3), 7, 2, 2, 2, 1);
    term("III", "of like rests the lesser ones");
    parts(withCoins(3, 1), 1, 0, 1, 0, 0);
    parts(withCoins(0, 1, 2, 3), 5, 2, 1, 1, 1);
    parts(withCoins(0, 1, 2, 3), 6, 2, 2, 1, 1);
    parts(withCoins(1, 2, 3), 2, 0, 1, 1, 0);
  }
}
