/** Every row as long as it may become: the edges of all limits at once, and calls on such a school. */
public final class FullSchoolTest {
  public static void main(String[] args) {
    NationSchool x = full();
    limits(x);
    answers(x);
    x.keep(0);
    x.keep(1);
    x.back(0);
    answers(x);
    Check.finish();
  }

  private static final String NATIONS =
      "nation 0 if x<10 and not y>50 and not land=9; nation 1 if x<20; nation 2 if x<30 and near 39 9999;"
          + "nation 3 if near 39 0 and land=9 and y=39;";

  /** VILLAGE i at (i, i): ten of each NATION, each with two PERSONS. */
  private static NationSchool full() {
    NationSchool x = new NationSchool();
    for (int i = 0; i < 40; i++) {
      Check.due("village", x.village(i, i, i % 9), i);
    }
    for (int i = 0; i < 39; i++) {
      Check.due("moved", x.moved(39, 9), 0);
    }
    Check.due("the 40th word", x.moved(38, 8), 0);
    for (int i = 0; i < 10; i++) {
      Check.due("statute", Check.statute(x, NATIONS + "vote nations; fee 3 1; turn 1;", -1), i);
    }
    for (int i = 0; i < 80; i++) {
      Check.due("oath", x.oath(i % 40, 3), i);
      Check.due("worth", x.worth(i, 79 - i), 99);
    }
    for (int i = 0; i < 12; i++) {
      Check.due("house", x.house(9, 999, 999), i);
    }
    for (int i = 0; i < 80; i++) {
      for (int k = 0; k < 4; k++) {
        Check.due("wish", x.wish(i, (i + k) % 12), k + 1);
      }
    }
    for (int e = 0; e < 20; e++) {
      Check.due("call", x.call(), e);
      for (int i = 0; i < 80; i++) {
        Check.due("vote", x.vote(e, i, i % 2 == 0 || i % 40 < e), 0);
      }
      x.close(e);
    }
    for (int i = 0; i < 300; i++) {
      x.pay(i % 10, 9999);
    }
    for (int i = 0; i < 14; i++) {
      x.entry(i % 2, 999 - i, i % 4, 9);
    }
    for (int slot = 0; slot < 4; slot++) {
      Check.due("row", x.row(slot, slot, 60), 0);
      Check.due("write", x.write(slot, 59, -1), 0);
    }
    return x;
  }

  private static void limits(NationSchool x) {
    Check.due("village", x.village(0, 0, 0), -3);
    Check.due("moved", x.moved(0, 0), -3);
    Check.due("statute", x.statute(-1), -3);
    Check.due("oath", x.oath(0, 0), -3);
    Check.due("oaths", x.oaths(0), 0);
    Check.due("house", x.house(1, 1, 1), -3);
    Check.due("wish", x.wish(0, 11), -3);
    Check.due("call", x.call(), -3);
    Check.due("pay", x.pay(0, 1), -3);
    Check.due("entry", x.entry(0, 0, 0, 0), -3);
    Check.due("entry", x.entry(1, 0, 0, 0), -3);
  }

  private static void answers(NationSchool x) {
    int[] heads = {20, 20, 20, 2};
    for (int n = 0; n < 4; n++) {
      Check.due("heads(" + n + ")", x.heads(n, 3599, 3599), heads[n]);
      Check.due("sorted(" + n + ")", x.sorted(n, 9, 3599), heads[n]);
      Check.due("turn(" + n + ")", x.turn(n, 3480), 3480 + 30 * n);
    }
    Check.due("heads(NONE)", x.heads(-1, 0, 0), 18);
    Check.due("claims(39)", x.claims(39, 0, 0), 8);
    Check.due("nation(39)", x.nation(39, 0, 0), 3);
    Check.due("sways(39)", x.sways(39), 511);
    Check.due("fees(79)", x.fees(79, 3599, 0), 10);
    Check.due("even(0)", x.even(0, 0), 30 * 9999 - 1);
    Check.due("purse(0)", x.purse(0), 300 * 9999);
    Check.due("masters", x.masters(10), -5);
    Check.due("rector(3599)", x.rector(3599, 3599), 3);
    Check.due("lodge", x.lodge(), 80);
    Check.due("lodged(79)", x.lodged(79), 79 % 12);
    Check.due("the most", x.exodus(0), 80);
    Check.due("the fewest", x.exodus(1), 80);
    Check.due("goes", x.goes(79, 1), 1);
    Check.due("returns", x.returns(0), -1);
    Check.due("judge", x.judge(-1), 1);
    // Of ELECTION 19: each even one, and of each forty the odd ones below 19.
    Check.due("for it", x.electionOf(19, 4), 40 + 2 * 9);
    Check.due("against it", x.electionOf(19, 5), 22);
    Check.due("NATIONS for it", x.electionOf(19, 2), 3);
    Check.due("NATIONS against it", x.electionOf(19, 3), 8);
    Check.due("under", x.under(19, 9), 1);
    // Of ELECTION 0: three NATIONS split, 3 against; one of two of them each has to go over.
    Check.due("carried", x.electionOf(0, 0), 0);
    Check.due("swing", x.swing(0), 2);
    Check.due("undo none such", x.undo(20), -2);
    // Lines of years that lie one apart, of one LAND: a chain that can be joined wholly in one way.
    Check.due("join", x.join(), 7 * 6);
    Check.due("rivals", x.rivals(), 1);
    Check.due("joined(6)", x.joined(6), 6);
  }
}
