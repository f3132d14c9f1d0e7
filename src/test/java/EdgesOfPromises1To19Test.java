import java.util.function.Supplier;

/** Edges that promises 1 to 19 name: too small, too large, empty, full, refused. */
public final class EdgesOfPromises1To19Test extends EdgeCases {
  public static void main(String[] args) {
    aNewObject();
    feed();
    end();
    next();
    village();
    moved();
    statuteByElections();
    statutesThatAreFull();
    statutesWithFaults();
    fault();
    force();
    claimsAndNation();
    sways();
    oath();
    oaths();
    oathsThatAreFull();
    leave();
    personOf();
    of();
    heads();
    sorted();
    finishPromises(1, 19);
  }

  private static void aNewObject() {
    promise(1, "DAY 0; no VILLAGES, PERSONS, STATUTES; PURSES empty; an empty TAPE, SLOTS have nothing.");
    NationSchool x = new NationSchool();
    for (int what = 0; what < 14; what++) {
      due("count(" + what + ")", x.count(what), 0);
    }
    due("no VILLAGE", x.sways(0), -2);
    due("no PERSON", x.leave(0), -2);
    due("no STATUTE", x.sorted(0, 0, 0), -2);
    due("no ELECTION", x.close(0), -2);
    due("no HOUSE", x.rent(0), -2);
    due("no line", x.join(), 0);
    for (int i = 0; i < 4; i++) {
      due("purse(" + i + ")", x.purse(i), 0);
      due("write(" + i + ", 0, 0)", x.write(i, 0, 0), -6);
    }
    due("the TAPE has not one byte", x.end(1), NONE);
    due("an empty text", x.statute(NONE), 0);
  }

  private static void feed() {
    promise(2, "Twenty bytes come behind the TAPE, four of each number, the highest first: how many it has");
    NationSchool x = new NationSchool();
    due("of an empty TAPE", x.feed(-1, 0, MIN, MAX, 1), 20);
    due("behind it", x.feed(0, 0, 0, 0, 0), 40);
    for (int at = 0; at < 20; at++) {
      int[] five = {0x20202020, 0x20202020, 0x20202020, 0x20202020, 0x20202020};
      five[at / 4] = 0x20202020 ^ (0x20 ^ 0x80) << 24 - 8 * (at % 4);
      x.end(0);
      x.feed(0x20202020, 0x20202020, 0x20202020, 0x20202020, 0x20202020);
      x.feed(five[0], five[1], five[2], five[3], five[4]);
      due("statute with a byte 128", x.statute(NONE), -4);
      due("its place", x.fault(1), 20 + at);
    }
    promise(2, "NONE, and none come, if it would have more than 600");
    due("a full one", bytes(600).count(6), 600);
    refused(() -> bytes(600), "feed behind 600", NONE, y -> y.feed(0, 0, 0, 0, 0));
    refused(() -> bytes(581), "feed behind 581", NONE, y -> y.feed(0, 0, 0, 0, 0));
    due("feed behind 580", bytes(580).feed(0, 0, 0, 0, 0), 600);
  }

  /** A school whose TAPE has so many bytes: a STATUTE and blanks. */
  private static NationSchool bytes(int n) {
    NationSchool x = new NationSchool();
    x.village(1, 1, 1);
    Check.tape(x, "nation 2;" + " ".repeat(n - 9));
    return x;
  }

  private static void end() {
    promise(3, "The TAPE has its first n bytes alone: n");
    NationSchool x = bytes(20);
    due("all of them", x.end(20), 20);
    due("the first 9", x.end(9), 9);
    due("there are 9", x.count(6), 9);
    x.feed(0x41414141, 0, 0, 0, 0);
    due("what is fed then", x.count(6), 29);
    x.statute(NONE);
    due("stands behind them", x.fault(1), 9);
    x = bytes(20);
    due("none of them", x.end(0), 0);
    due("an empty one", x.statute(NONE), 0);
    due("of an empty one", x.end(0), 0);
    Check.tape(x, "turn 12;");
    x.end(6);
    due("a TOKEN cut in two", x.statute(NONE), -4);
    due("the end's place", x.fault(1), 6);
    Check.tape(x, "turn");
    due("what stood there is gone", x.statute(NONE), -4);
    due("the end's place", x.fault(1), 4);
    promise(3, "NONE, and nothing happens, if it has not so many");
    refused("end(10) of 9", NONE, y -> y.end(10));
    refused("end(600) of 9", NONE, y -> y.end(600));
    refused("end(MAX)", NONE, y -> y.end(MAX));
    promise(3, "or n is below 0");
    refused("end(-1)", NONE, y -> y.end(-1));
    refused("end(MIN)", NONE, y -> y.end(MIN));
  }

  private static void next() {
    promise(4, "TODAY is so many DAYS later (0 .. 3599): TODAY.");
    NationSchool x = new NationSchool();
    due("next(0)", x.next(0), 0);
    due("next(1)", x.next(1), 1);
    due("next(3598)", x.next(3598), 3599);
    due("next(0) on the last DAY", x.next(0), 3599);
    due("next(3599)", new NationSchool().next(3599), 3599);
    promise(4, "NONE, and nothing happens: another number");
    refusedEach(each(-1, -10, -11, 3600, MIN, MAX), "next", NONE, NationSchool::next);
    promise(4, "beyond 3599");
    refusedEach(each(3590, 3599), "next on DAY 10", NONE, NationSchool::next);
    due("next(3589) on DAY 10", Probe.richSchool().next(3589), 3599);
    refused(() -> {
      NationSchool y = new NationSchool();
      y.next(3599);
      return y;
    }, "next(1) on the last DAY", NONE, y -> y.next(1));
  }

  private static NationSchool fortyVillages() {
    NationSchool x = new NationSchool();
    for (int i = 0; i < 40; i++) {
      x.village(i, i, i % 10);
    }
    return x;
  }

  private static void village() {
    promise(5, "A VILLAGE: its number.");
    NationSchool x = new NationSchool();
    due("the least", x.village(0, 0, 0), 0);
    due("the greatest", x.village(99, 99, 9), 1);
    promise(5, "-2: x, y are not 0 .. 99, LAND not 0 .. 9");
    refusedEach(each(-1, 100, MIN, MAX), "x", -2, (y, n) -> y.village(n, 0, 0));
    refusedEach(each(-1, 100, MIN, MAX), "y", -2, (y, n) -> y.village(0, n, 0));
    refusedEach(each(-1, 10, MIN, MAX), "LAND", -2, (y, n) -> y.village(0, 0, n));
    promise(5, "-3: there are 40");
    due("there are", fortyVillages().count(1), 40);
    refused(EdgesOfPromises1To19Test::fortyVillages, "a 41st", -3, y -> y.village(0, 0, 0));
    due("a 41st that is none", fortyVillages().village(0, 0, 10), -2);
  }

  private static void moved() {
    promise(6, "A VILLAGE is of another LAND from TODAY on: 0.");
    NationSchool x = Probe.richSchool();
    due("to LAND 0", x.moved(2, 0), 0);
    due("to LAND 9", x.moved(2, 9), 0);
    due("to the LAND that it has", x.moved(2, 9), 0);
    promise(6, "-2: there is none such");
    refusedEach(each(-1, 3, 40, MIN, MAX), "VILLAGE", -2, (y, n) -> y.moved(n, 0));
    refusedEach(each(-1, 10, MIN, MAX), "LAND", -2, (y, n) -> y.moved(0, n));
    promise(6, "-3: 40 such words were told");
    NationSchool told = Probe.richSchool();
    told.moved(5, 0);
    told.moved(0, 10);
    for (int i = 2; i <= 40; i++) {
      due("word " + i + " of all VILLAGES", told.moved(i % 3, i % 10), 0);
    }
    due("a 41st, of any VILLAGE", told.moved(2, 0), -3);
    refused(EdgesOfPromises1To19Test::fortyWords, "a 41st", -3, y -> y.moved(1, 5));
    due("a 41st that is none", told.moved(3, 0), -2);
    due("a 41st to no LAND", told.moved(0, 10), -2);
  }

  private static NationSchool fortyWords() {
    NationSchool x = Probe.richSchool();
    for (int i = 0; i < 39; i++) {
      Check.due("moved", x.moved(i % 3, i % 10), 0);
    }
    return x;
  }

  private static void statuteByElections() {
    promise(7, "from TODAY on, passed by an ELECTION (NONE: by none): its number.");
    due("by none", Probe.richSchool().statute(NONE), 2);
    due("by one", Probe.richSchool().statute(0), 2);
    promise(7, "-2 (the TAPE stays): no such ELECTION");
    refusedEach(each(-2, 4, 20, MIN, MAX), "statute", -2, NationSchool::statute);
    promise(7, "it was not closed TODAY");
    refused("of an open one", -2, x -> x.statute(3));
    refused(() -> {
      NationSchool x = Probe.richSchool();
      x.next(1);
      return x;
    }, "of one closed yesterday", -2, x -> x.statute(0));
    promise(7, "not carried");
    refused("of one not carried", -2, x -> x.statute(1));
    due("though it is not VOID", Probe.richSchool().electionOf(1, 7), 0);
    promise(7, "is VOID");
    refused("of a VOID one", -2, x -> x.statute(2));
    due("though it was carried", Probe.richSchool().electionOf(2, 0), 1);
    promise(7, "The TAPE (empty then)");
    NationSchool x = Probe.richSchool();
    x.statute(NONE);
    due("it is empty", x.count(6), 0);
  }

  private static NationSchool tenStatutes() {
    NationSchool x = Probe.richSchool();
    for (int i = 2; i < 10; i++) {
      Check.due("statute", Check.statute(x, "turn " + i + ";", NONE), i);
    }
    Check.tape(x, "foo");
    return x;
  }

  private static void statutesThatAreFull() {
    promise(7, "-3 (it stays): there are 10");
    due("there are", tenStatutes().count(3), 10);
    refused(EdgesOfPromises1To19Test::tenStatutes, "an eleventh", -3, x -> x.statute(NONE));
    refused(EdgesOfPromises1To19Test::tenStatutes, "an eleventh by an ELECTION", -3, x -> x.statute(0));
    due("no such ELECTION goes first", tenStatutes().statute(9), -2);
    NationSchool x = tenStatutes();
    x.statute(NONE);
    due("its TAPE stays", x.count(6), 3);
    due("it was not read", x.fault(0), 0);
  }

  private static void statutesWithFaults() {
    promise(7, "-4: a FAULT");
    NationSchool x = Probe.richSchool();
    Check.tape(x, "turn 5; turn 100;");
    due("statute(NONE)", x.statute(NONE), -4);
    due("no STATUTE more", x.count(3), 2);
    due("none of its LINES counts", x.force(3599, 3599), 1);
    due("the TAPE is empty", x.count(6), 0);
    Check.tape(x, "foo");
    due("by an ELECTION too", x.statute(0), -4);
    Check.tape(x, "turn 5;");
    due("which may still pass one", x.statute(0), 2);
  }

  private static void fault() {
    promise(8, "what 0: its FAULT, 0 without, 1: its place (NONE without)");
    NationSchool x = Probe.richSchool();
    due("its FAULT", x.fault(0), 2);
    due("its place", x.fault(1), 5);
    x.statute(NONE);
    due("without one", x.fault(0), 0);
    due("no place", x.fault(1), NONE);
    Check.statute(x, "foo", NONE);
    due("at the first place", x.fault(1), 0);
    promise(8, "NONE for another what, and ahead of any (what 1)");
    refusedEach(each(-1, 2, MIN, MAX), "fault", NONE, NationSchool::fault);
    due("ahead of any, what 0", new NationSchool().fault(0), 0);
    due("ahead of any, what 1", new NationSchool().fault(1), NONE);
    promise(8, "Of the latest statute() that read its TAPE");
    NationSchool y = Probe.richSchool();
    y.statute(9);
    due("one that did not read it", y.fault(0), 2);
    due("one that did not read it", y.fault(1), 5);
  }

  private static void force() {
    promise(9, "The STATUTE in force on a DAY as known on a DAY; NONE.");
    due("none", new NationSchool().force(0, 0), NONE);
    due("the first DAY", Probe.richSchool().force(0, 0), 0);
    due("the last DAY", Probe.richSchool().force(3599, 3599), 1);
    promise(9, "-2: other DAYS.");
    refusedEach(each(-1, 3600, MIN, MAX), "DAY", -2, (x, n) -> x.force(n, 0));
    refusedEach(each(-1, 3600, MIN, MAX), "DAY as known", -2, (x, n) -> x.force(0, n));
  }

  private static void claimsAndNation() {
    int[] noVillages = each(-1, 3, 40, MIN, MAX);
    int[] noDays = each(-1, 3600, MIN, MAX);
    promise(10, "-2: there is none such.");
    refusedEach(noVillages, "VILLAGE", -2, (x, n) -> x.claims(n, 0, 0));
    refusedEach(noDays, "DAY", -2, (x, n) -> x.claims(0, n, 0));
    refusedEach(noDays, "DAY as known", -2, (x, n) -> x.claims(0, 0, n));
    due("none claims it", Probe.richSchool().claims(2, 0, 0), 0);
    due("the last DAY", Probe.richSchool().claims(0, 3599, 3599), 3);
    promise(11, "NONE: no LINE holds.");
    due("nation(2, 0, 0)", Probe.richSchool().nation(2, 0, 0), NONE);
    due("without a STATUTE", fortyVillages().nation(39, 0, 0), NONE);
    due("the last DAY", Probe.richSchool().nation(1, 3599, 3599), 0);
    promise(11, "-2 likewise.");
    refusedEach(noVillages, "VILLAGE", -2, (x, n) -> x.nation(n, 0, 0));
    refusedEach(noDays, "DAY", -2, (x, n) -> x.nation(0, n, 0));
    refusedEach(noDays, "DAY as known", -2, (x, n) -> x.nation(0, 0, n));
  }

  private static void sways() {
    promise(12, "LANDS, as bits, by which a VILLAGE, if it were of it TODAY, would be of another NATION TODAY");
    NationSchool x = fortyVillages();
    due("without a STATUTE", x.sways(0), 0);
    Check.statute(x, "nation 0 if land=0; nation 1 if land=9; nation 2;");
    due("all but its own", x.sways(0), 1022);
    due("of the last LAND", x.sways(9), 511);
    due("the first and the last", x.sways(5), 513);
    x.moved(5, 0);
    due("moved TODAY", x.sways(5), 1022);
    Check.statute(x, "nation 3;");
    due("none", x.sways(0), 0);
    promise(12, "-2: there is none such.");
    refusedEach(each(-1, 3, 40, MIN, MAX), "sways", -2, NationSchool::sways);
  }

  private static NationSchool eightyPersons() {
    NationSchool x = Probe.richSchool();
    for (int p = 6; p < 80; p++) {
      Check.due("oath", x.oath(p % 3, p % 4), p);
    }
    return x;
  }

  private static void oath() {
    promise(13, "A PERSON of a VILLAGE and a RANK (0 .. 3) takes the oath TODAY: the number.");
    due("RANK 0", Probe.richSchool().oath(0, 0), 6);
    due("RANK 3, the last VILLAGE", Probe.richSchool().oath(2, 3), 6);
    promise(13, "-2: there is none such");
    refusedEach(each(-1, 3, 40, MIN, MAX), "VILLAGE", -2, (x, n) -> x.oath(n, 0));
    refusedEach(each(-1, 4, MIN, MAX), "RANK", -2, (x, n) -> x.oath(0, n));
    promise(13, "-3: there are 80");
    due("there are", eightyPersons().count(2), 80);
    refused(EdgesOfPromises1To19Test::eightyPersons, "an 81st", -3, x -> x.oath(0, 0));
    due("an 81st of no VILLAGE", eightyPersons().oath(3, 0), -2);
    due("an 81st of no RANK", eightyPersons().oath(0, 4), -2);
    NationSchool x = eightyPersons();
    x.leave(79);
    due("one who left makes no room", x.oath(0, 0), -3);
  }

  private static NationSchool withRow(int width, long... numbers) {
    NationSchool x = Probe.richSchool();
    x.row(2, width, numbers.length);
    for (int i = 0; i < numbers.length; i++) {
      Check.due("write", x.write(2, i, numbers[i]), 0);
    }
    return x;
  }

  private static void refusedOaths(String what, Supplier<NationSchool> made) {
    refused(made, what, 0, x -> x.oaths(2));
  }

  private static void oaths() {
    promise(14, "up to the first one that would be refused, or is not whole: how many.");
    refusedOaths("a row of no numbers", () -> withRow(0));
    refusedOaths("one number, not whole", () -> withRow(0, 1));
    due("two numbers", withRow(0, 2, 3).oaths(2), 1);
    due("three numbers", withRow(0, 2, 3, 0).oaths(2), 1);
    due("four numbers", withRow(0, 2, 3, 0, 0).oaths(2), 2);
    refusedOaths("the first is of no VILLAGE", () -> withRow(0, 3, 0, 0, 0));
    refusedOaths("the first is of VILLAGE -1", () -> withRow(0, -1, 0, 0, 0));
    refusedOaths("the first is of no RANK", () -> withRow(0, 0, 4, 0, 0));
    refusedOaths("the first is of RANK -1", () -> withRow(0, 0, -1, 0, 0));
    due("the second is of no VILLAGE", withRow(0, 0, 0, 3, 0, 0, 0).oaths(2), 1);
    due("the third is of no RANK", withRow(0, 0, 0, 0, 0, 0, 4, 0, 0).oaths(2), 2);
    refusedOaths("a VILLAGE beyond 32 bits", () -> withRow(3, 1L << 32, 0));
    refusedOaths("a RANK beyond 32 bits", () -> withRow(3, 0, 1L << 32));
    refusedOaths("a VILLAGE of 64 bits", () -> withRow(3, Long.MIN_VALUE, 0));
    promise(14, "-2: there is no such SLOT");
    refusedEach(each(-1, 4, MIN, MAX), "oaths", -2, NationSchool::oaths);
    promise(14, "-6: it has nothing.");
    refused("oaths(2)", -6, x -> x.oaths(2));
  }

  private static void oathsThatAreFull() {
    promise(14, "PERSONS take the oath TODAY from the row of a SLOT");
    NationSchool x = new NationSchool();
    x.village(0, 0, 0);
    x.row(3, 2, 60);
    x.next(7);
    due("30 of the longest row", x.oaths(3), 30);
    due("their DAY", x.personOf(29, 2), 7);
    due("the row stays", x.oaths(3), 30);
    due("up to the 80th", x.oaths(3), 20);
    due("none when there are 80", x.oaths(3), 0);
    due("there are", x.count(2), 80);
  }

  private static void leave() {
    promise(15, "A PERSON goes away for ever TODAY: 0.");
    NationSchool x = Probe.richSchool();
    due("the first", x.leave(0), 0);
    due("the last", x.leave(5), 0);
    due("the DAY", x.personOf(5, 3), 10);
    promise(15, "-2: there is none such");
    refusedEach(each(-1, 6, 80, MIN, MAX), "leave", -2, NationSchool::leave);
    promise(15, "or gone.");
    refused("of one gone TODAY", -2, y -> y.leave(3));
    refused(() -> {
      NationSchool y = Probe.richSchool();
      y.next(3589);
      return y;
    }, "of one gone long ago", -2, y -> y.leave(3));
    x.oath(0, 0);
    due("on the oath's DAY", x.leave(6), 0);
    due("gone since", x.leave(6), -2);
  }

  private static void personOf() {
    promise(16, "what 0: VILLAGE, 1: RANK, 2: DAY of the oath, 3: DAY on which it left (NONE).");
    NationSchool x = Probe.richSchool();
    int[] gone = {0, 3, 0, 10};
    int[] there = {1, 0, 0, NONE};
    for (int what = 0; what < 4; what++) {
      due("personOf(3, " + what + ")", x.personOf(3, what), gone[what]);
      due("personOf(4, " + what + ")", x.personOf(4, what), there[what]);
    }
    NationSchool y = new NationSchool();
    y.village(0, 0, 0);
    y.oath(0, 0);
    y.leave(0);
    due("it left on DAY 0", y.personOf(0, 3), 0);
    promise(16, "NOTHING (-2,000,000,000) for others.");
    refusedEach(each(-1, 6, 80, MIN, MAX), "PERSON", NOTHING, (z, n) -> z.personOf(n, 0));
    refusedEach(each(-1, 4, MIN, MAX), "what", NOTHING, (z, n) -> z.personOf(0, n));
  }

  private static void of() {
    promise(17, "as known on a DAY; NONE.");
    due("of none", Probe.richSchool().of(2, 10), NONE);
    due("as known on the first DAY", Probe.richSchool().of(1, 0), 1);
    due("as known on the last DAY", Probe.richSchool().of(1, 3599), 1);
    promise(17, "-2: there is none such.");
    refusedEach(each(-1, 6, 80, MIN, MAX), "PERSON", -2, (x, n) -> x.of(n, 0));
    refusedEach(each(-1, 3600, MIN, MAX), "DAY", -2, (x, n) -> x.of(0, n));
  }

  private static void heads() {
    promise(18, "How many PERSONS of a NATION (NONE: of none) there are on a DAY as known on a DAY.");
    NationSchool x = Probe.richSchool();
    due("of NATION 0", x.heads(0, 9, 10), 3);
    due("of NATION 0, one gone", x.heads(0, 10, 10), 2);
    due("of NATION 3", x.heads(3, 10, 10), 0);
    due("of none", x.heads(NONE, 3599, 3599), 1);
    due("nobody", new NationSchool().heads(NONE, 0, 0), 0);
    promise(18, "-2: other numbers.");
    refusedEach(each(-2, 4, MIN, MAX), "NATION", -2, (y, n) -> y.heads(n, 0, 0));
    refusedEach(each(-1, 3600, MIN, MAX), "DAY", -2, (y, n) -> y.heads(0, n, 0));
    refusedEach(each(-1, 3600, MIN, MAX), "DAY as known", -2, (y, n) -> y.heads(0, 0, n));
  }

  private static void sorted() {
    promise(19, "all sorted by it (LANDS of their oaths' DAYS, as known TODAY; VOID or not)");
    NationSchool x = Probe.richSchool();
    due("by the first STATUTE", x.sorted(1, 0, 10), 2);
    due("by the last", x.sorted(1, 1, 10), 2);
    due("of NATION 3", x.sorted(3, 1, 10), 0);
    due("the DAY ahead of one's leaving", x.sorted(0, 1, 9), 3);
    due("the last DAY", x.sorted(0, 1, 3599), 2);
    x.undo(0);
    due("by a VOID one", x.sorted(0, 1, 9), 3);
    promise(19, "-2: other numbers.");
    refusedEach(each(-1, 4, MIN, MAX), "NATION", -2, (y, n) -> y.sorted(n, 0, 0));
    refusedEach(each(-1, 2, 10, MIN, MAX), "STATUTE", -2, (y, n) -> y.sorted(0, n, 0));
    refusedEach(each(-1, 3600, MIN, MAX), "DAY", -2, (y, n) -> y.sorted(0, 0, n));
  }
}
