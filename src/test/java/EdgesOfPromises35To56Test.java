import java.util.function.Supplier;

/** Edges that promises 35 to 56 name: too small, too large, empty, full, refused. */
public final class EdgesOfPromises35To56Test extends EdgeCases {
  public static void main(String[] args) {
    house();
    appealAndRent();
    wish();
    lodge();
    worth();
    exodus();
    goes();
    returns();
    judge();
    entry();
    join();
    joinedAndRivals();
    count();
    purse();
    keep();
    back();
    whatNoImageKeeps();
    row();
    write();
    cutToWidth();
    paste();
    pasteBeyond();
    questionsChangeNothing();
    finishPromises(35, 56);
  }

  private static final int[] NO_PERSONS = {-1, 6, 80, MIN, MAX};
  private static final int[] NO_HOUSES = {-1, 2, 12, MIN, MAX};
  private static final int[] NO_SLOTS = {-1, 4, MIN, MAX};
  private static final int[] NO_IMAGES = {-1, 3, MIN, MAX};

  private static NationSchool twelveHouses() {
    NationSchool x = Probe.richSchool();
    for (int h = 2; h < 12; h++) {
      Check.due("house", x.house(1 + h % 9, h, h), h);
    }
    return x;
  }

  private static void house() {
    promise(35, "A HOUSE with rooms (1 .. 9), told by the school's taxer and by the town's (0 .. 999 each)");
    NationSchool x = Probe.richSchool();
    due("the least", x.house(1, 0, 0), 2);
    due("the greatest", x.house(9, 999, 999), 3);
    promise(35, "-2: they are not as told");
    refusedEach(each(0, -1, 10, MIN, MAX), "rooms", -2, (y, n) -> y.house(n, 1, 1));
    refusedEach(each(-1, 1000, MIN, MAX), "the school's", -2, (y, n) -> y.house(1, n, 1));
    refusedEach(each(-1, 1000, MIN, MAX), "the town's", -2, (y, n) -> y.house(1, 1, n));
    promise(35, "-3: there are 12");
    due("there are", twelveHouses().count(5), 12);
    refused(EdgesOfPromises35To56Test::twelveHouses, "a 13th", -3, y -> y.house(1, 1, 1));
    due("a 13th not as told", twelveHouses().house(0, 1, 1), -2);
  }

  private static void appealAndRent() {
    promise(36, "A third taxer's sum (0 .. 999) of a HOUSE: its rent.");
    NationSchool x = twelveHouses();
    due("the least", x.appeal(0, 0), 10);
    due("the greatest, in its place", x.appeal(0, 999), 15);
    due("one between", x.appeal(0, 12), 12);
    due("the last HOUSE", x.appeal(11, 999), 11);
    promise(36, "-2: there is none such.");
    refusedEach(NO_HOUSES, "HOUSE", -2, (y, n) -> y.appeal(n, 1));
    refusedEach(each(-1, 1000, MIN, MAX), "sum", -2, (y, n) -> y.appeal(0, n));
    promise(37, "The rent of a HOUSE (VI).");
    due("of the first", x.rent(0), 12);
    due("of the last", x.rent(11), 11);
    promise(37, "-2: there is none such.");
    refusedEach(NO_HOUSES, "rent", -2, NationSchool::rent);
  }

  private static NationSchool fourWishes() {
    NationSchool x = twelveHouses();
    for (int k = 0; k < 4; k++) {
      Check.due("wish", x.wish(2, 11 - k), k + 1);
    }
    return x;
  }

  private static void wish() {
    promise(38, "A PERSON wishes a HOUSE behind those it wished: how many.");
    due("the first", Probe.richSchool().wish(5, 1), 1);
    due("the second", Probe.richSchool().wish(0, 1), 2);
    promise(38, "-2: there are none such");
    refusedEach(NO_PERSONS, "PERSON", -2, (x, n) -> x.wish(n, 0));
    refusedEach(NO_HOUSES, "HOUSE", -2, (x, n) -> x.wish(0, n));
    promise(38, "it wished it");
    refused("the first once more", -2, x -> x.wish(1, 0));
    refused("the last once more", -2, x -> x.wish(1, 1));
    promise(38, "-3: 4.");
    refused(EdgesOfPromises35To56Test::fourWishes, "a fifth", -3, x -> x.wish(2, 0));
    due("a fifth that it wished", fourWishes().wish(2, 8), -2);
    due("a fifth that is none", fourWishes().wish(2, 12), -2);
  }

  private static void lodge() {
    promise(39, "how many PERSONS have a HOUSE.");
    due("nobody", new NationSchool().lodge(), 0);
    due("1 and 4, but no room for 0", Probe.richSchool().lodge(), 2);
    promise(40, "The HOUSE of a PERSON by the latest lodge(); NONE.");
    due("ahead of any", eighty().lodged(0), NONE);
    NationSchool x = eighty();
    due("lodge", x.lodge(), 2);
    due("the first PERSON", x.lodged(0), 0);
    due("one without a HOUSE", x.lodged(1), NONE);
    due("the last PERSON", x.lodged(79), 0);
    int[] none = {-1, 80, 81, MIN, MAX};
    for (int person : none) {
      due("lodged(" + person + ")", x.lodged(person), NONE);
    }
    x.leave(0);
    due("one gone since", x.lodged(0), 0);
    x.wish(1, 0);
    due("one that wished since", x.lodged(1), NONE);
    x.lodge();
    due("by the latest", x.lodged(0), NONE);
    due("by the latest", x.lodged(1), 0);
  }

  /** 80 PERSONS, of whom the first and the last wish the one HOUSE. */
  private static NationSchool eighty() {
    NationSchool x = new NationSchool();
    x.village(0, 0, 0);
    x.house(2, 1, 1);
    for (int p = 0; p < 80; p++) {
      x.oath(0, 0);
    }
    x.wish(0, 0);
    x.wish(79, 0);
    return x;
  }

  private static void worth() {
    promise(41, "goes in an EXODUS if at least so many others go (0 .. 99): what was told (99 at first).");
    NationSchool x = eighty();
    due("at first", x.worth(79, 0), 99);
    due("the least", x.worth(79, 99), 0);
    due("the greatest", x.worth(79, 99), 99);
    promise(41, "-2: there is none such");
    refusedEach(NO_PERSONS, "PERSON", -2, (y, n) -> y.worth(n, 0));
    promise(41, "another number");
    refusedEach(each(-1, 100, MIN, MAX), "others", -2, (y, n) -> y.worth(0, n));
  }

  private static void exodus() {
    promise(42, "what 0: the most who can stand away, 1: the fewest; of those who are there TODAY.");
    NationSchool x = eighty();
    due("all want 99", x.exodus(0), 0);
    for (int p = 0; p < 80; p++) {
      x.worth(p, 79);
    }
    due("all want 79", x.exodus(0), 80);
    due("the fewest", x.exodus(1), 0);
    x.leave(79);
    due("one is gone", x.exodus(0), 0);
    due("nobody", new NationSchool().exodus(0), 0);
    due("nobody", new NationSchool().exodus(1), 0);
    promise(42, "-2: another what.");
    refusedEach(each(-1, 2, MIN, MAX), "exodus", -2, NationSchool::exodus);
  }

  private static void goes() {
    promise(43, "Whether a PERSON goes in that one (1, 0)");
    NationSchool x = Probe.richSchool();
    due("in the most", x.goes(0, 0), 1);
    due("the last in the most", x.goes(5, 0), 0);
    due("who is gone", x.goes(3, 0), 0);
    due("who is gone, in the fewest", x.goes(3, 1), 0);
    promise(43, "-2 likewise, or there is none such.");
    refusedEach(each(-1, 2, MIN, MAX), "what", -2, (y, n) -> y.goes(0, n));
    refusedEach(NO_PERSONS, "PERSON", -2, (y, n) -> y.goes(n, 0));
    refusedEach(NO_PERSONS, "PERSON in the fewest", -2, (y, n) -> y.goes(n, 1));
  }

  private static void returns() {
    promise(44, "the k-th who returns (VII); NONE.");
    NationSchool x = eighty();
    due("the first", x.returns(0), 79);
    due("the last", x.returns(79), 0);
    for (int k : each(-1, 80, 81, MIN, MAX)) {
      due("returns(" + k + ")", x.returns(k), NONE);
    }
    x.leave(79);
    due("who is gone does not return", x.returns(0), 78);
    due("so there is one less", x.returns(79), NONE);
    due("nobody", new NationSchool().returns(0), NONE);
  }

  private static void judge() {
    promise(45, "0 it stands; 1 somebody would return, 2 somebody else would go (1 if both).");
    NationSchool x = eighty();
    due("nobody stands", x.judge(0), 0);
    x.worth(0, 0);
    due("the first would go", x.judge(0), 2);
    due("the first alone stands", x.judge(1), 0);
    due("the second would return, the first go", x.judge(2), 1);
    x.worth(31, 1);
    due("the 32nd would go", x.judge(1), 2);
    due("the first and the 32nd stand", x.judge(MIN | 1), 0);
    x.worth(32, 2);
    due("the 33rd is no bit, but would go", x.judge(MIN | 1), 2);
    for (int p = 0; p < 32; p++) {
      x.worth(p, 31);
    }
    x.worth(32, 33);
    due("all of the first 32", x.judge(-1), 0);
    x.worth(79, 32);
    due("the last would go", x.judge(-1), 2);
    promise(45, "-2: some of these are not there TODAY.");
    refusedEach(each(1 << 6, 1 << 31, -1, 1 | 1 << 6), "no such PERSONS", -2, NationSchool::judge);
    refusedEach(each(1 << 3, 1 | 1 << 3, 63), "one who is gone", -2, NationSchool::judge);
    due("a row without the one who is gone", Probe.richSchool().judge(63 - 8) >= 0 ? 1 : 0, 1);
  }

  private static NationSchool sevenLines() {
    NationSchool x = Probe.richSchool();
    for (int n = 4; n <= 7; n++) {
      Check.due("entry", x.entry(0, 100, 1, 1), n);
    }
    return x;
  }

  private static void entry() {
    promise(46, "A BOOK (0, 1) has a line more: a year (0 .. 999), a mark (0 .. 99), a LAND (0 .. 9): how many.");
    NationSchool x = new NationSchool();
    due("the least", x.entry(0, 0, 0, 0), 1);
    due("the greatest", x.entry(1, 999, 99, 9), 1);
    promise(46, "-2: they are not as told");
    refusedEach(each(-1, 2, MIN, MAX), "BOOK", -2, (y, n) -> y.entry(n, 1, 1, 1));
    refusedEach(each(-1, 1000, MIN, MAX), "year", -2, (y, n) -> y.entry(0, n, 1, 1));
    refusedEach(each(-1, 100, MIN, MAX), "mark", -2, (y, n) -> y.entry(0, 1, n, 1));
    refusedEach(each(-1, 10, MIN, MAX), "LAND", -2, (y, n) -> y.entry(0, 1, 1, n));
    promise(46, "-3: 7.");
    refused(EdgesOfPromises35To56Test::sevenLines, "an eighth", -3, y -> y.entry(0, 1, 1, 1));
    due("an eighth not as told", sevenLines().entry(0, 1000, 1, 1), -2);
    due("the other BOOK has room", sevenLines().entry(1, 1, 1, 1), 3);
  }

  private static void join() {
    promise(47, "JOINED (VIII): the greatest sum.");
    due("empty BOOKS", new NationSchool().join(), 0);
    NationSchool x = new NationSchool();
    for (int i = 0; i < 7; i++) {
      x.entry(0, 999, 99, 9);
      x.entry(1, 999, 99, 9);
    }
    due("seven alike", x.join(), 84);
    due("their rivals", x.rivals(), 5040);
    for (int line = 0; line < 7; line++) {
      due("joined(" + line + ")", x.joined(line), line);
    }
  }

  private static void joinedAndRivals() {
    promise(48, "by the latest join(); NONE.");
    NationSchool x = new NationSchool();
    x.entry(0, 1, 1, 1);
    x.entry(1, 1, 1, 1);
    x.entry(0, 900, 9, 9);
    due("ahead of any", x.joined(0), NONE);
    x.join();
    due("the first line", x.joined(0), 0);
    due("a line joined to none", x.joined(1), NONE);
    for (int line : each(-1, 2, 6, 7, MIN, MAX)) {
      due("joined(" + line + ")", x.joined(line), NONE);
    }
    x.entry(1, 900, 9, 9);
    due("a line told since", x.joined(1), NONE);
    x.join();
    due("by the latest", x.joined(1), 1);
    promise(49, "How many joinings come to that sum. (0 ahead of any join().)");
    NationSchool y = new NationSchool();
    due("ahead of any", y.rivals(), 0);
    y.join();
    due("of empty BOOKS: that of none to none", y.rivals(), 1);
    y.entry(0, 1, 1, 1);
    y.entry(1, 1, 1, 1);
    y.entry(1, 1, 1, 1);
    due("told since", y.rivals(), 1);
    y.join();
    due("two lines", y.rivals(), 2);
  }

  private static void count() {
    promise(50, "NONE for others.");
    refusedEach(each(-1, 14, MIN, MAX), "count", NONE, NationSchool::count);
    promise(50, "12 SLOTS that have a row");
    NationSchool x = new NationSchool();
    for (int slot = 0; slot < 4; slot++) {
      x.row(slot, 0, 0);
      due("a row of no numbers is one", x.count(12), slot + 1);
    }
    promise(50, "0 TODAY, 1 VILLAGES, 2 PERSONS, 3 STATUTES, 4 ELECTIONS, 5 HOUSES, 6 bytes of the TAPE, "
        + "7 the sum of PURSES, 8 coins of all feasts, 9 times that was paid, 10 lines of BOOK 0, 11 of BOOK 1");
    int[] want = {10, 3, 6, 2, 4, 2, 9, 146, 5, 2, 3, 2, 3, 9};
    for (int what = 0; what < 14; what++) {
      due("count(" + what + ")", Probe.richSchool().count(what), want[what]);
    }
  }

  private static void purse() {
    promise(51, "What a PURSE has. -2: there is none such.");
    refusedEach(each(-1, 4, MIN, MAX), "purse", -2, NationSchool::purse);
    due("an empty one", Probe.richSchool().purse(3), 0);
    int sum = 0;
    for (int nation = 0; nation < 4; nation++) {
      sum += Probe.richSchool().purse(nation);
    }
    due("all of them", sum, 146);
  }

  private static void keep() {
    promise(52, "IMAGE k (0 .. 2) keeps all that is told");
    NationSchool x = new NationSchool();
    for (int k = 0; k < 3; k++) {
      x.next(1);
      due("keep(" + k + ")", x.keep(k), 0);
    }
    for (int k = 0; k < 3; k++) {
      x.back(k);
      due("IMAGE " + k, x.count(0), k + 1);
    }
    x.next(50);
    due("in place of what it had", x.keep(0), 0);
    x.next(1);
    x.back(0);
    due("IMAGE 0", x.count(0), 53);
    promise(52, "-2: no such k.");
    refusedEach(NO_IMAGES, "keep", -2, NationSchool::keep);
  }

  private static void back() {
    promise(53, "All that is as IMAGE k has it: 0.");
    NationSchool x = Probe.richSchool();
    due("back(1)", x.back(1), 0);
    x.next(100);
    due("an IMAGE may be gone back to again", x.back(1), 0);
    due("TODAY", x.count(0), 10);
    due("ahead of that", x.back(0), 0);
    due("TODAY", x.count(0), 0);
    due("and behind it", x.back(1), 0);
    due("TODAY", x.count(0), 10);
    NationSchool empty = new NationSchool();
    empty.keep(0);
    empty.village(0, 0, 0);
    due("an IMAGE of nothing told", empty.back(0), 0);
    due("no VILLAGES", empty.count(1), 0);
    promise(53, "-2: no such k");
    refusedEach(NO_IMAGES, "back", -2, NationSchool::back);
    promise(53, "-6: it has nothing.");
    refused("back(2)", -6, y -> y.back(2));
    refused(NationSchool::new, "back(0)", -6, y -> y.back(0));
  }

  private static void whatNoImageKeeps() {
    promise(52, "(not the TAPE, SLOTS, what was found)");
    NationSchool x = Probe.richSchool();
    x.back(0);
    due("the TAPE", x.count(6), 9);
    due("SLOTS", x.count(12), 3);
    due("a SLOT's row", x.oaths(0), 2);
    due("its numbers", x.personOf(7, 0), 1);
    due("the FAULT", x.fault(0), 2);
    due("its place", x.fault(1), 5);
    due("a HOUSE that was found", x.lodged(1), 0);
    due("a line that was found", x.joined(0), Probe.richSchool().joined(0));
    due("rivals that were found", x.rivals(), Probe.richSchool().rivals());
    due("IMAGES are not gone back on", x.back(1), 0);
  }

  private static void row() {
    promise(54, "A SLOT has a row of n numbers of a WIDTH, all 0 (in place of another one): 0.");
    NationSchool x = Probe.richSchool();
    due("in place of another", x.row(0, 0, 5), 0);
    due("all 0", x.oaths(0), 2);
    due("all 0", x.personOf(6, 1) + x.personOf(7, 0), 0);
    due("no numbers", x.row(0, 3, 0), 0);
    due("the longest", x.row(0, 3, 60), 0);
    due("its end", x.write(0, 60, 0), -7);
    promise(54, "-2: there is no such SLOT or WIDTH (0 .. 3)");
    refusedEach(NO_SLOTS, "SLOT", -2, (y, n) -> y.row(n, 0, 1));
    refusedEach(each(-1, 4, MIN, MAX), "WIDTH", -2, (y, n) -> y.row(0, n, 1));
    promise(54, "or n is above 60");
    refusedEach(each(61, 600, MAX), "n", -2, (y, n) -> y.row(0, 0, n));
    promise(54, "-3, and the SLOT stays: n is below 0.");
    refusedEach(each(-1, MIN), "n", -3, (y, n) -> y.row(0, 0, n));
    refusedEach(each(-1, MIN), "n of a SLOT that has nothing", -3, (y, n) -> y.row(2, 0, n));
    due("no such SLOT goes first", x.row(4, 0, -1), -2);
    due("no such WIDTH goes first", x.row(0, 4, -1), -2);
  }

  private static void write() {
    promise(55, "-2: there is no such SLOT");
    refusedEach(NO_SLOTS, "SLOT", -2, (x, n) -> x.write(n, 0, 1));
    promise(55, "-6: it has nothing");
    refused("write(2, 0, 1)", -6, x -> x.write(2, 0, 1));
    refused("write(2, -1, 1)", -6, x -> x.write(2, -1, 1));
    promise(55, "-7: there is no such number.");
    refusedEach(each(-1, 5, 60, MIN, MAX), "number", -7, (x, n) -> x.write(0, n, 1));
    refusedEach(each(0, -1), "number of a row of none", -7, (x, n) -> x.write(3, n, 1));
    due("the first", Probe.richSchool().write(0, 0, 1), 0);
    due("the last", Probe.richSchool().write(0, 4, 1), 0);
  }

  /** Whether a number, once written, is VILLAGE 2: 1 if one takes the oath by it. */
  private static int isTwo(int width, long number) {
    NationSchool x = Probe.richSchool();
    x.row(0, width, 2);
    x.write(0, 0, number);
    int taken = x.oaths(0);
    return taken == 1 && x.personOf(6, 0) == 2 ? 1 : 0;
  }

  private static void cutToWidth() {
    promise(55, "Number i of the SLOT's row is v, cut to its WIDTH: 0.");
    int[] bits = {8, 16, 32};
    for (int width = 0; width < 3; width++) {
      long beyond = 1L << bits[width];
      due("just beyond WIDTH " + width, isTwo(width, beyond + 2), 1);
      due("far beyond WIDTH " + width, isTwo(width, -beyond + 2), 1);
      due("the highest bit of WIDTH " + width, isTwo(width, beyond / 2 + 2), 0);
      due("the lowest of 8 bytes, cut", isTwo(width, Long.MIN_VALUE + 2), 1);
    }
    due("of 8 bytes nothing is cut", isTwo(3, (1L << 32) + 2), 0);
    due("of 8 bytes nothing is cut", isTwo(3, Long.MIN_VALUE + 2), 0);
    due("of 8 bytes", isTwo(3, 2), 1);
  }

  private static void paste() {
    promise(56, "are put to another one's (or its own), from one on, as they were: 0.");
    NationSchool x = Probe.richSchool();
    x.row(1, 0, 5);
    due("all of them", x.paste(0, 0, 1, 0, 5), 0);
    due("they are there", x.oaths(1), 2);
    due("one of them", x.personOf(6, 1), 2);
    due("onto themselves", x.paste(0, 0, 0, 0, 5), 0);
    due("one to the last place", x.paste(0, 0, 1, 4, 1), 0);
    due("the last to the first place", x.paste(0, 4, 1, 0, 1), 0);
    refused("none, at both ends", 0, y -> y.paste(0, 5, 3, 0, 0));
    promise(56, "-2: there is no such SLOT");
    refusedEach(NO_SLOTS, "the one SLOT", -2, (y, n) -> y.paste(n, 0, 0, 0, 1));
    refusedEach(NO_SLOTS, "the other SLOT", -2, (y, n) -> y.paste(0, 0, n, 0, 1));
    promise(56, "-6: one has nothing");
    refused("the one", -6, y -> y.paste(2, 0, 0, 0, 1));
    refused("the other", -6, y -> y.paste(0, 0, 2, 0, 1));
    refused("both", -6, y -> y.paste(2, 0, 2, 0, 0));
    due("no such SLOT goes first", Probe.richSchool().paste(2, 0, 4, 0, 1), -2);
    promise(56, "-8: they are not of one WIDTH");
    refused("1 byte to 2", -8, y -> y.paste(0, 0, 1, 0, 1));
    refused("2 bytes to 1", -8, y -> y.paste(1, 0, 0, 0, 1));
    refused("none of them", -8, y -> y.paste(0, 0, 1, 0, 0));
    due("it goes ahead of places", Probe.richSchool().paste(0, -1, 1, 9, MAX), -8);
  }

  private static void refusedPastes(Supplier<NationSchool> made, int[][] places) {
    for (int[] p : places) {
      refused(made, "paste of " + p[2] + " from " + p[0] + " to " + p[1], -7, x -> x.paste(0, p[0], 1, p[1], p[2]));
    }
  }

  /** SLOT 0 has five numbers, SLOT 1 three. */
  private static NationSchool fiveAndThree() {
    NationSchool x = Probe.richSchool();
    x.row(1, 0, 3);
    return x;
  }

  private static void pasteBeyond() {
    promise(56, "-7, and nothing happens: some are beyond their rows");
    refusedPastes(EdgesOfPromises35To56Test::fiveAndThree, new int[][] {{0, 0, 4}, {3, 0, 3}, {0, 1, 3}, {5, 0, 1},
        {0, 3, 1}, {4, 0, 2}, {0, 2, 2}, {0, 0, 6}, {MAX, 0, 1}, {0, MAX, 1}, {0, 0, MAX}, {1, 1, MAX},
        {MAX, MAX, MAX}, {6, 0, 0}, {0, 4, 0}});
    promise(56, "or a place or n is below 0.");
    refusedPastes(EdgesOfPromises35To56Test::fiveAndThree, new int[][] {{-1, 0, 1}, {0, -1, 1}, {0, 0, -1},
        {-1, 0, 0}, {0, -1, 0}, {-1, -1, -1}, {MIN, 0, 1}, {0, MIN, 1}, {0, 0, MIN}, {1, 1, -1}, {MIN, MIN, MIN}});
    due("as many as there are", fiveAndThree().paste(0, 2, 1, 0, 3), 0);
  }

  private static void questionsChangeNothing() {
    promise(50, "NONE for others.");
    NationSchool asked = Probe.richSchool();
    for (int n = 0; n < 6; n++) {
      askAll(asked, n);
    }
    that("who asks changes nothing", Probe.of(asked).equals(Probe.of(Probe.richSchool())));
  }

  private static void askAll(NationSchool x, int n) {
    x.fault(n);
    x.force(n, n);
    x.claims(n, n, 10);
    x.nation(n, n, 10);
    x.sways(n);
    x.personOf(n, n);
    x.of(n, 10);
    x.heads(n - 1, 10, 10);
    x.sorted(n, 0, 10);
    x.fees(n, 3599, 10);
    x.even(n, 3599);
    x.part(n);
    x.electionOf(n, n);
    x.under(n, 0);
    x.under(0, n);
    x.swing(n);
    x.rector(n * 30, 10);
    x.turn(n, 10);
    x.rent(n);
    x.lodged(n);
    x.exodus(n);
    x.goes(n, 0);
    x.goes(n, 1);
    x.returns(n);
    x.judge(n);
    x.joined(n);
    x.rivals();
    x.count(n);
    x.purse(n);
  }
}
