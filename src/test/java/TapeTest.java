/** Promises 1 to 4: a new object, feed, end, next. */
public final class TapeTest {
  public static void main(String[] args) {
    aNewObjectHasNothing();
    theTapeTakesTwentyBytesAtATime();
    bytesComeHighestFirst();
    endCutsTheTape();
    daysGoOn();
    Check.finish();
  }

  private static void aNewObjectHasNothing() {
    NationSchool x = new NationSchool();
    for (int what = 0; what <= 13; what++) {
      Check.due("count(" + what + ")", x.count(what), 0);
    }
    for (int nation = 0; nation < 4; nation++) {
      Check.due("purse", x.purse(nation), 0);
    }
    for (int slot = 0; slot < 4; slot++) {
      Check.due("oaths", x.oaths(slot), -6);
    }
    for (int k = 0; k < 3; k++) {
      Check.due("back", x.back(k), -6);
    }
    Check.due("NONE", NationSchool.NONE, -1);
  }

  private static void theTapeTakesTwentyBytesAtATime() {
    NationSchool x = new NationSchool();
    for (int n = 20; n <= 600; n += 20) {
      Check.due("feed", x.feed(0, 0, 0, 0, 0), n);
    }
    Check.due("feed at 600", x.feed(0, 0, 0, 0, 0), -1);
    Check.due("count(6)", x.count(6), 600);
    Check.due("end(581)", x.end(581), 581);
    Check.due("feed at 581", x.feed(0, 0, 0, 0, 0), -1);
    Check.due("count(6)", x.count(6), 581);
    Check.due("end(580)", x.end(580), 580);
    Check.due("feed at 580", x.feed(0, 0, 0, 0, 0), 600);
  }

  private static void bytesComeHighestFirst() {
    // "turn 5;" and blanks, then what stands behind is told apart by its FAULT's place.
    int[] five = {0x7475726e, 0x20353b20, 0x20202020, 0x2020200a, 0x20200a41};
    NationSchool x = new NationSchool();
    Check.due("feed", x.feed(five[0], five[1], five[2], five[3], five[4]), 20);
    Check.due("statute", x.statute(-1), -4);
    Check.due("fault(1)", x.fault(1), 19);
    Check.due("the tape is empty", x.count(6), 0);
    x.feed(five[0], five[1], five[2], five[3], five[4]);
    x.end(19);
    Check.due("statute", x.statute(-1), 0);
    // A byte above 127 in each of the five numbers is no TOKEN.
    for (int i = 0; i < 5; i++) {
      int[] blank = {0x20202020, 0x20202020, 0x20202020, 0x20202020, 0x20202020};
      blank[i] = 0x20ff2020;
      x.feed(blank[0], blank[1], blank[2], blank[3], blank[4]);
      Check.due("statute", x.statute(-1), -4);
      Check.due("fault(1)", x.fault(1), 4 * i + 1);
    }
  }

  private static void endCutsTheTape() {
    NationSchool x = new NationSchool();
    Check.due("end(0)", x.end(0), 0);
    Check.due("end(1)", x.end(1), -1);
    Check.due("end(-1)", x.end(-1), -1);
    x.feed(0x7475726e, 0x20353b41, 0x41414141, 0x41414141, 0x41414141);
    Check.due("end(21)", x.end(21), -1);
    Check.due("count(6)", x.count(6), 20);
    Check.due("end(min)", x.end(Integer.MIN_VALUE), -1);
    Check.due("end(20)", x.end(20), 20);
    Check.due("end(7)", x.end(7), 7);
    Check.due("end(8)", x.end(8), -1);
    Check.due("count(6)", x.count(6), 7);
    Check.due("statute", x.statute(-1), 0);
  }

  private static void daysGoOn() {
    NationSchool x = new NationSchool();
    Check.due("next(0)", x.next(0), 0);
    Check.due("next(-1)", x.next(-1), -1);
    Check.due("next(3600)", x.next(3600), -1);
    Check.due("next(max)", x.next(Integer.MAX_VALUE), -1);
    Check.due("count(0)", x.count(0), 0);
    Check.due("next(10)", x.next(10), 10);
    Check.due("next(3590)", x.next(3590), -1);
    Check.due("count(0)", x.count(0), 10);
    Check.due("next(3589)", x.next(3589), 3599);
    Check.due("next(1)", x.next(1), -1);
    Check.due("next(0)", x.next(0), 3599);
    Check.due("next(3599) of a new one", new NationSchool().next(3599), 3599);
  }
}
