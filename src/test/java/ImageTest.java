/** Promises 50, 52 and 53: count, keep, back. */
public final class ImageTest {
  public static void main(String[] args) {
    counts();
    wrongImages();
    backToAllThatWasTold();
    whatIsNotKept();
    imagesStandApart();
    Check.finish();
  }

  private static NationSchool filled() {
    NationSchool x = new NationSchool();
    x.village(1, 2, 3);
    x.village(4, 5, 6);
    Check.statute(x, "nation 1 if land=3; fee 0 5;");
    x.oath(0, 0);
    x.oath(1, 0);
    x.oath(0, 2);
    x.house(1, 2, 4);
    x.house(1, 2, 4);
    x.wish(0, 0);
    x.call();
    x.vote(0, 0, true);
    x.close(0);
    x.pay(0, 70);
    x.pay(0, 30);
    x.feast(1, 11);
    x.masters(9);
    x.entry(0, 1, 1, 1);
    x.entry(0, 2, 2, 2);
    x.entry(1, 1, 1, 1);
    x.row(2, 0, 4);
    x.worth(0, 3);
    x.next(40);
    return x;
  }

  private static void counts() {
    NationSchool x = filled();
    x.feed(0, 0, 0, 0, 0);
    int[] due = {40, 2, 3, 1, 1, 2, 20, 80, 11, 2, 2, 1, 1, 9};
    for (int what = 0; what < due.length; what++) {
      Check.due("count(" + what + ")", x.count(what), due[what]);
    }
    Check.due("count(14)", x.count(14), -1);
    Check.due("count(-1)", x.count(-1), -1);
  }

  private static void wrongImages() {
    NationSchool x = new NationSchool();
    Check.due("keep(3)", x.keep(3), -2);
    Check.due("keep(-1)", x.keep(-1), -2);
    Check.due("back(3)", x.back(3), -2);
    Check.due("back(-1)", x.back(-1), -2);
    Check.due("back(2)", x.back(2), -6);
    Check.due("keep(2)", x.keep(2), 0);
    Check.due("back(2)", x.back(2), 0);
    Check.due("back(1)", x.back(1), -6);
  }

  private static void backToAllThatWasTold() {
    NationSchool x = filled();
    x.keep(1);
    x.next(5);
    x.village(9, 9, 9);
    x.moved(0, 7);
    Check.statute(x, "nation 2; turn 1;");
    x.oath(2, 1);
    x.leave(0);
    x.pay(0, 5);
    x.feast(1, 7);
    x.masters(1);
    x.undo(0);
    x.call();
    x.vote(1, 1, false);
    x.house(9, 9, 9);
    x.appeal(0, 0);
    x.wish(0, 1);
    x.worth(0, 98);
    x.entry(0, 3, 3, 3);
    x.entry(1, 3, 3, 3);
    Check.due("back", x.back(1), 0);
    int[] due = {40, 2, 3, 1, 1, 2, 0, 80, 11, 2, 2, 1, 1, 9};
    for (int what = 0; what < due.length; what++) {
      Check.due("count(" + what + ")", x.count(what), due[what]);
    }
    Check.due("land", x.nation(0, 45, 45), 1);
    Check.due("statute", x.force(45, 45), 0);
    Check.due("left", x.personOf(0, 3), -1);
    Check.due("even", x.even(0, 45), 95);
    Check.due("purse", x.purse(1), 80);
    Check.due("part", x.part(1), 9);
    Check.due("void", x.electionOf(0, 7), 0);
    Check.due("rent", x.rent(0), 3);
    Check.due("wishes", x.wish(0, 1), 2);
    Check.due("worth", x.worth(0, 1), 3);
    Check.due("join", x.join(), 12 + 0);
    Check.due("a new election", x.call(), 1);
    Check.due("has no votes", x.close(1), 0);
    Check.due("none against", x.electionOf(1, 5), 0);
    Check.due("a new person", x.oath(1, 3), 3);
    Check.due("worth at first", x.worth(3, 0), 99);
    Check.due("wishes at first", x.wish(3, 0), 1);
  }

  private static void whatIsNotKept() {
    NationSchool x = filled();
    x.keep(0);
    Check.due("lodge", x.lodge(), 1);
    Check.due("join", x.join(), 12);
    x.row(0, 1, 3);
    Check.statute(x, "turn 0;", -1);
    x.feed(0, 0, 0, 0, 0);
    x.back(0);
    Check.due("the tape", x.count(6), 20);
    Check.due("slots", x.count(12), 2);
    Check.due("the fault", x.fault(0), 2);
    Check.due("its place", x.fault(1), 5);
    Check.due("lodged", x.lodged(0), 0);
    Check.due("joined", x.joined(0), 0);
    Check.due("rivals", x.rivals(), 1);
  }

  private static void imagesStandApart() {
    NationSchool x = new NationSchool();
    x.village(0, 0, 0);
    x.keep(0);
    x.next(1);
    x.village(0, 0, 0);
    x.keep(1);
    x.next(1);
    x.village(0, 0, 0);
    x.keep(2);
    x.back(0);
    Check.due("image 0", x.count(1), 1);
    x.next(7);
    x.oath(0, 0);
    x.back(2);
    Check.due("image 2", x.count(1), 3);
    Check.due("image 2", x.count(0), 2);
    x.back(1);
    Check.due("image 1", x.count(1), 2);
    x.keep(0);
    x.back(2);
    x.back(0);
    Check.due("image 0 kept anew", x.count(1), 2);
    Check.due("image 0 kept anew", x.count(0), 1);
    Check.due("image 0 kept anew", x.count(2), 0);
  }
}
