/** Edges that promises 20 to 34 name: too small, too large, empty, full, refused. */
public final class EdgesOfPromises20To34Test extends EdgeCases {
  public static void main(String[] args) {
    fees();
    pay();
    threeHundredTimes();
    feast();
    even();
    masters();
    mastersRefused();
    part();
    call();
    vote();
    close();
    electionOf();
    under();
    swing();
    undo();
    rector();
    turn();
    finishPromises(20, 34);
  }

  private static final int[] NO_PERSONS = {-1, 6, 80, MIN, MAX};
  private static final int[] NO_DAYS = {-1, 3600, MIN, MAX};
  private static final int[] NO_NATIONS = {-1, 4, MIN, MAX};

  private static void fees() {
    promise(20, "What a PERSON has owed in fees up to a DAY as known on a DAY (III).");
    NationSchool x = Probe.richSchool();
    due("the first DAY", x.fees(0, 0, 0), 7);
    due("the last DAY", x.fees(0, 3599, 3599), 7 + 9 * 8);
    due("the last DAY, known on the first", x.fees(0, 3599, 0), 70);
    due("a RANK without a fee", x.fees(2, 3599, 3599), 0);
    promise(20, "-2: there are none such.");
    refusedEach(NO_PERSONS, "PERSON", -2, (y, n) -> y.fees(n, 0, 0));
    refusedEach(NO_DAYS, "DAY", -2, (y, n) -> y.fees(0, n, 0));
    refusedEach(NO_DAYS, "DAY as known", -2, (y, n) -> y.fees(0, 0, n));
  }

  private static void pay() {
    promise(21, "pays so many coins (1 .. 9999) into the PURSE of the NATION that it is of TODAY: what that has.");
    NationSchool x = Probe.richSchool();
    int had = x.purse(0);
    due("one coin", x.pay(0, 1), had + 1);
    due("9999 coins", x.pay(5, 9999), had + 10000);
    due("the PURSE", x.purse(0), had + 10000);
    promise(21, "-2: there is none such");
    refusedEach(NO_PERSONS, "PERSON", -2, (y, n) -> y.pay(n, 1));
    promise(21, "of no NATION");
    refused("pay(2, 1)", -2, y -> y.pay(2, 1));
    promise(21, "another sum");
    refusedEach(each(0, -1, 10000, MIN, MAX), "coins", -2, (y, n) -> y.pay(0, n));
  }

  private static NationSchool paidThreeHundredTimes() {
    NationSchool x = Probe.richSchool();
    for (int i = 3; i <= 300; i++) {
      Check.that("paid", x.pay(i % 2, 9999) > 0);
    }
    return x;
  }

  private static void threeHundredTimes() {
    promise(21, "-3: 300 times.");
    due("times", paidThreeHundredTimes().count(9), 300);
    refused(EdgesOfPromises20To34Test::paidThreeHundredTimes, "once more", -3, x -> x.pay(0, 1));
    refused(EdgesOfPromises20To34Test::paidThreeHundredTimes, "by another one", -3, x -> x.pay(4, 1));
    due("no such sum goes first", paidThreeHundredTimes().pay(0, 0), -2);
    due("no such PERSON goes first", paidThreeHundredTimes().pay(6, 1), -2);
    due("of no NATION goes first", paidThreeHundredTimes().pay(2, 1), -2);
    NationSchool x = Probe.richSchool();
    for (int i = 3; i < 300; i++) {
      x.pay(0, 1);
    }
    x.pay(0, 0);
    x.pay(2, 1);
    due("what was refused is not one of them", x.pay(0, 1) > 0 ? 1 : 0, 1);
    due("the 301st", x.pay(0, 1), -3);
  }

  private static void feast() {
    promise(22, "so many coins (1 .. 99999) out of a PURSE: what that has then.");
    NationSchool x = paidThreeHundredTimes();
    int had = x.purse(1);
    due("one coin", x.feast(1, 1), had - 1);
    due("99999 coins", x.feast(1, 99999), had - 100000);
    due("coins of all feasts", x.count(8), 5 + 100000);
    promise(22, "-2: there is none such");
    refusedEach(NO_NATIONS, "NATION", -2, (y, n) -> y.feast(n, 1));
    refusedEach(each(0, -1, 100000, MIN, MAX), "coins", -2, (y, n) -> y.feast(0, n));
    refused(EdgesOfPromises20To34Test::paidThreeHundredTimes, "100000 that it has", -2, y -> y.feast(1, 100000));
    promise(22, "-5: it has less.");
    refused("an empty PURSE", -5, y -> y.feast(3, 1));
    int has = Probe.richSchool().purse(0);
    refused("one coin more than it has", -5, y -> y.feast(0, has + 1));
    refused("the most", -5, y -> y.feast(0, 99999));
    due("all that it has", Probe.richSchool().feast(0, has), 0);
  }

  private static void even() {
    promise(23, "What a PERSON paid up to a DAY less what it owed (as known TODAY).");
    NationSchool x = Probe.richSchool();
    due("on the DAY it paid and owed", x.even(0, 0), 100 - 7);
    due("on the last DAY", x.even(0, 3599), 100 - 7 - 9 * 8);
    due("it never paid", x.even(4, 0), -7);
    x.pay(0, 30);
    due("the DAY ahead of what it paid", x.even(0, 9), 93);
    due("the DAY on which it paid", x.even(0, 10), 123);
    promise(23, "NOTHING: there are none such.");
    refusedEach(NO_PERSONS, "PERSON", NOTHING, (y, n) -> y.even(n, 0));
    refusedEach(NO_DAYS, "DAY", NOTHING, (y, n) -> y.even(0, n));
  }

  /** Two PERSONS of NATION 0, one of NATION 1, who paid so many coins. */
  private static NationSchool purses(int first, int second) {
    NationSchool x = new NationSchool();
    x.village(0, 0, 0);
    x.village(0, 0, 1);
    x.village(0, 0, 2);
    Check.statute(x, "nation 0 if land=0; nation 1 if land=1;");
    x.oath(0, 0);
    x.oath(0, 0);
    x.oath(1, 0);
    for (int coins = first; coins > 0; coins -= 9999) {
      x.pay(0, Math.min(coins, 9999));
    }
    for (int coins = second; coins > 0; coins -= 9999) {
      x.pay(2, Math.min(coins, 9999));
    }
    return x;
  }

  private static void masters() {
    promise(24, "so many coins (1 .. 99999) out of PURSES (III): what the PURSES have together then.");
    due("one coin", purses(1, 0).masters(1), 0);
    due("99999 coins", purses(66666, 33333).masters(99999), 0);
    due("three of ten", purses(6, 4).masters(3), 7);
    NationSchool x = purses(6, 4);
    x.masters(3);
    due("coins of all MASTERS", x.count(13), 3);
    promise(24, "-2: another sum");
    refusedEach(each(0, -1, 100000, MIN, MAX), "masters", -2, NationSchool::masters);
    refused(() -> purses(90000, 90000), "100000 that they have", -2, y -> y.masters(100000));
    due("another sum goes first", new NationSchool().masters(0), -2);
  }

  private static void mastersRefused() {
    promise(24, "-5: nobody is there TODAY who is of a NATION");
    refused(NationSchool::new, "nobody at all", -5, x -> x.masters(1));
    refused(() -> {
      NationSchool x = purses(9, 9);
      for (int p = 0; p < 3; p++) {
        x.leave(p);
      }
      return x;
    }, "all are gone", -5, x -> x.masters(1));
    refused(() -> {
      NationSchool x = purses(9, 9);
      for (int p = 0; p < 3; p++) {
        x.leave(p);
      }
      x.oath(2, 0);
      return x;
    }, "one of no NATION", -5, x -> x.masters(1));
    promise(24, "or a PURSE has less than its part.");
    refused(() -> purses(1, 9), "the first has one less", -5, x -> x.masters(3));
    refused(() -> purses(9, 0), "the second has one less", -5, x -> x.masters(3));
    due("both have their parts", purses(2, 1).masters(3), 0);
    refused(() -> purses(66665, 33333), "one less of 99999", -5, x -> x.masters(99999));
  }

  private static void part() {
    promise(25, "What a PURSE paid at the latest masters() that was paid; 0 ahead of any.");
    for (int nation = 0; nation < 4; nation++) {
      due("ahead of any", purses(9, 9).part(nation), 0);
    }
    NationSchool x = purses(9, 9);
    x.masters(100);
    due("one that was refused", x.part(0), 0);
    x.masters(6);
    x.masters(100);
    x.masters(0);
    due("of the latest that was paid", x.part(0), 4);
    due("of the latest that was paid", x.part(1), 2);
    due("of a NATION without PERSONS", x.part(3), 0);
    x.masters(1);
    due("of the next", x.part(0), 1);
    due("nothing this time", x.part(1), 0);
    promise(25, "-2: there is none such.");
    refusedEach(NO_NATIONS, "part", -2, NationSchool::part);
  }

  private static NationSchool twentyElections() {
    NationSchool x = Probe.richSchool();
    x.close(3);
    for (int e = 4; e < 20; e++) {
      Check.due("call", x.call(), e);
      x.close(e);
    }
    return x;
  }

  private static void call() {
    promise(26, "An ELECTION is called TODAY: its number.");
    NationSchool x = Probe.richSchool();
    x.next(1);
    due("one of yesterday is open", x.call(), 4);
    x.close(4);
    due("one of TODAY was closed", x.call(), 5);
    due("the first", new NationSchool().call(), 0);
    promise(26, "-2: one of TODAY is open");
    refused("call()", -2, NationSchool::call);
    promise(26, "-3: there are 20");
    due("there are", twentyElections().count(4), 20);
    refused(EdgesOfPromises20To34Test::twentyElections, "a 21st", -3, NationSchool::call);
    NationSchool y = Probe.richSchool();
    y.close(3);
    for (int e = 4; e < 20; e++) {
      y.call();
      if (e < 19) {
        y.close(e);
      }
    }
    due("the 20th is open", y.call(), -2);
    y.close(19);
    due("it is closed", y.call(), -3);
  }

  private static void vote() {
    promise(27, "A PERSON who is there TODAY votes in an ELECTION, for or against, in place of what it did: 0.");
    NationSchool x = Probe.richSchool();
    due("the last PERSON", x.vote(3, 5, false), 0);
    due("in place of it", x.vote(3, 5, true), 0);
    due("once more the same", x.vote(3, 5, true), 0);
    x.close(3);
    due("all for it", x.electionOf(3, 4), 5);
    due("none against it", x.electionOf(3, 5), 0);
    promise(27, "-2: there are none such");
    refusedEach(each(-1, 4, 20, MIN, MAX), "ELECTION", -2, (y, n) -> y.vote(n, 0, false));
    refusedEach(NO_PERSONS, "PERSON", -2, (y, n) -> y.vote(3, n, false));
    promise(27, "gone");
    refused("of one who is gone", -2, y -> y.vote(3, 3, false));
    promise(27, "-5: the ELECTION is closed.");
    refused("vote(0, 0, false)", -5, y -> y.vote(0, 0, false));
    refused("of a VOID one", -5, y -> y.vote(2, 0, false));
    due("no such PERSON goes first", Probe.richSchool().vote(0, 6, true), -2);
    due("gone goes first", Probe.richSchool().vote(0, 3, true), -2);
  }

  private static void close() {
    promise(28, "An ELECTION is closed TODAY: 1 carried, 0 not (IV).");
    due("carried", Probe.richSchool().close(3), 1);
    NationSchool x = twentyElections();
    due("the last", x.electionOf(19, 6), 10);
    due("without votes", x.electionOf(19, 0), 0);
    NationSchool y = Probe.richSchool();
    y.next(3589);
    due("on the last DAY", y.close(3), 1);
    due("the DAY", y.electionOf(3, 6), 3599);
    promise(28, "-2: there is none such");
    refusedEach(each(-1, 4, 20, MIN, MAX), "close", -2, NationSchool::close);
    promise(28, "-5: it was.");
    refused("close(0)", -5, z -> z.close(0));
    refused("of one not carried", -5, z -> z.close(1));
    refused("of a VOID one", -5, z -> z.close(2));
  }

  private static void electionOf() {
    promise(29, "4: votes for it; 5: against; 6: DAY; 7: 1 if it is VOID TODAY, else 0.");
    NationSchool x = Probe.richSchool();
    int[][] want = {{1, 1, 3, 0, 5, 0, 10, 0}, {0, 0, 0, 2, 1, 4, 10, 0}, {1, 1, 3, 0, 5, 0, 10, 1}};
    for (int election = 0; election < 3; election++) {
      for (int what = 0; what < 8; what++) {
        due("electionOf(" + election + ", " + what + ")", x.electionOf(election, what), want[election][what]);
      }
    }
    NationSchool y = Probe.richSchool();
    y.undo(0);
    due("VOID TODAY", y.electionOf(0, 7), 1);
    promise(29, "NOTHING for others.");
    refusedEach(each(-1, 4, 20, MIN, MAX), "ELECTION", NOTHING, (z, n) -> z.electionOf(n, 0));
    refusedEach(each(-1, 8, MIN, MAX), "what", NOTHING, (z, n) -> z.electionOf(0, n));
    for (int what = 0; what < 8; what++) {
      due("of an open one, what " + what, x.electionOf(3, what), NOTHING);
    }
  }

  private static void under() {
    promise(30, "-2: there are none such.");
    refusedEach(each(-1, 4, 20, MIN, MAX), "ELECTION", -2, (x, n) -> x.under(n, 0));
    refusedEach(each(-1, 2, 10, MIN, MAX), "STATUTE", -2, (x, n) -> x.under(0, n));
    refused("of an open one", -2, x -> x.under(3, 0));
    NationSchool x = Probe.richSchool();
    due("the first STATUTE", x.under(1, 0), 0);
    due("the last STATUTE", x.under(0, 1), 1);
    due("a VOID ELECTION", x.under(2, 0), 1);
    x.undo(0);
    due("a VOID STATUTE", x.under(0, 1), 1);
  }

  private static void swing() {
    promise(31, "NONE: not by any.");
    NationSchool x = new NationSchool();
    x.call();
    x.close(0);
    due("without votes", x.swing(0), NONE);
    promise(31, "-2: there is none such.");
    refusedEach(each(-1, 4, 20, MIN, MAX), "swing", -2, NationSchool::swing);
    refused("of an open one", -2, y -> y.swing(3));
    due("of a VOID one", Probe.richSchool().swing(2) > 0 ? 1 : 0, 1);
  }

  private static void undo() {
    promise(32, "how many ELECTIONS (it too) and STATUTES became VOID.");
    due("one alone", Probe.richSchool().undo(1), 1);
    due("0, its STATUTE, and 1 that was closed by it", Probe.richSchool().undo(0), 3);
    NationSchool x = Probe.richSchool();
    x.close(3);
    due("3 too", x.undo(0), 4);
    promise(32, "-2: there is none such");
    refusedEach(each(-1, 4, 20, MIN, MAX), "undo", -2, NationSchool::undo);
    refused("of an open one", -2, y -> y.undo(3));
    promise(32, "-5: it was.");
    refused("of one that was undone", -5, y -> y.undo(2));
    due("of one that hung on another", x.undo(3), -5);
  }

  private static void rector() {
    promise(33, "The RECTOR's NATION on a DAY as known on a DAY (V); NONE.");
    NationSchool x = Probe.richSchool();
    due("the first DAY", x.rector(0, 0), 0);
    due("the last DAY, known on the first", x.rector(3599, 0), 0);
    due("the last DAY", x.rector(3599, 3599), 0);
    due("the last DAY of NATION 1", x.rector(3479, 3599), 1);
    due("that DAY, known on the first", x.rector(3479, 0), 0);
    due("none", new NationSchool().rector(0, 0), NONE);
    promise(33, "-2: other DAYS.");
    refusedEach(NO_DAYS, "DAY", -2, (y, n) -> y.rector(n, 0));
    refusedEach(NO_DAYS, "DAY as known", -2, (y, n) -> y.rector(0, n));
  }

  private static void turn() {
    promise(34, "The DAY from which on (a DAY or behind it) a NATION has the turn next");
    NationSchool x = purses(0, 0);
    due("it has it on that DAY", x.turn(0, 0), 0);
    due("it has it in the midst of a turn", x.turn(0, 89), 89);
    due("the DAY ahead", x.turn(1, 89), 90);
    due("that DAY", x.turn(1, 90), 90);
    due("the last DAY of a turn", x.turn(1, 179), 179);
    due("the last turn's NATION is not there, so 0 has it", x.turn(0, 3599), 3599);
    promise(34, "NONE: it won't up to 3599.");
    due("no PERSONS", x.turn(2, 0), NONE);
    due("behind its last turn", x.turn(1, 3420), NONE);
    due("on the last DAY of its last turn", x.turn(1, 3419), 3419);
    due("nobody", new NationSchool().turn(0, 0), NONE);
    promise(34, "-2: other numbers.");
    refusedEach(NO_NATIONS, "NATION", -2, (y, n) -> y.turn(n, 0));
    refusedEach(NO_DAYS, "DAY", -2, (y, n) -> y.turn(0, n));
  }
}
