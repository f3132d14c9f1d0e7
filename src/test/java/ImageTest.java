import java.util.ArrayList;
import java.util.List;
import java.util.Random;

/** Promises 50, 52 and 53: count, keep, back. */
public final class ImageTest {
  public static void main(String[] args) {
    counts();
    wrongImages();
    backToAllThatWasTold();
    whatIsNotKept();
    imagesStandApart();
    twoBranches();
    whatWasTakenBackLeavesNothing();
    Check.finish();
  }

  private static NationSchool filled() {
    NationSchool x = new NationSchool();
    x.village(1, 2, 3);
    x.village(4, 5, 6);
    Check.statute(x, "nation 1 if land=3; fee 0 5;");
    x.oath(0, 0);
    x.oath(1, 0);
    x.oath(0, 2);
    x.house(1, 2, 4);
    x.house(1, 2, 4);
    x.wish(0, 0);
    x.call();
    x.vote(0, 0, true);
    x.close(0);
    x.pay(0, 70);
    x.pay(0, 30);
    x.feast(1, 11);
    x.masters(9);
    x.entry(0, 1, 1, 1);
    x.entry(0, 2, 2, 2);
    x.entry(1, 1, 1, 1);
    x.row(2, 0, 4);
    x.worth(0, 3);
    x.next(40);
    return x;
  }

  private static void counts() {
    NationSchool x = filled();
    x.feed(0, 0, 0, 0, 0);
    int[] due = {40, 2, 3, 1, 1, 2, 20, 80, 11, 2, 2, 1, 1, 9};
    for (int what = 0; what < due.length; what++) {
      Check.due("count(" + what + ")", x.count(what), due[what]);
    }
    Check.due("count(14)", x.count(14), -1);
    Check.due("count(-1)", x.count(-1), -1);
  }

  private static void wrongImages() {
    NationSchool x = new NationSchool();
    Check.due("keep(3)", x.keep(3), -2);
    Check.due("keep(-1)", x.keep(-1), -2);
    Check.due("back(3)", x.back(3), -2);
    Check.due("back(-1)", x.back(-1), -2);
    Check.due("back(2)", x.back(2), -6);
    Check.due("keep(2)", x.keep(2), 0);
    Check.due("back(2)", x.back(2), 0);
    Check.due("back(1)", x.back(1), -6);
  }

  private static void backToAllThatWasTold() {
    NationSchool x = filled();
    x.keep(1);
    x.next(5);
    x.village(9, 9, 9);
    x.moved(0, 7);
    Check.statute(x, "nation 2; turn 1;");
    x.oath(2, 1);
    x.leave(0);
    x.pay(0, 5);
    x.feast(1, 7);
    x.masters(1);
    x.undo(0);
    x.call();
    x.vote(1, 1, false);
    x.house(9, 9, 9);
    x.appeal(0, 0);
    x.wish(0, 1);
    x.worth(0, 98);
    x.entry(0, 3, 3, 3);
    x.entry(1, 3, 3, 3);
    Check.due("back", x.back(1), 0);
    int[] due = {40, 2, 3, 1, 1, 2, 0, 80, 11, 2, 2, 1, 1, 9};
    for (int what = 0; what < due.length; what++) {
      Check.due("count(" + what + ")", x.count(what), due[what]);
    }
    Check.due("land", x.nation(0, 45, 45), 1);
    Check.due("statute", x.force(45, 45), 0);
    Check.due("left", x.personOf(0, 3), -1);
    Check.due("even", x.even(0, 45), 95);
    Check.due("purse", x.purse(1), 80);
    Check.due("part", x.part(1), 9);
    Check.due("void", x.electionOf(0, 7), 0);
    Check.due("rent", x.rent(0), 3);
    Check.due("wishes", x.wish(0, 1), 2);
    Check.due("worth", x.worth(0, 1), 3);
    Check.due("join", x.join(), 12 + 0);
    Check.due("a new election", x.call(), 1);
    Check.due("has no votes", x.close(1), 0);
    Check.due("none against", x.electionOf(1, 5), 0);
    Check.due("a new person", x.oath(1, 3), 3);
    Check.due("worth at first", x.worth(3, 0), 99);
    Check.due("wishes at first", x.wish(3, 0), 1);
  }

  private static void whatIsNotKept() {
    NationSchool x = filled();
    x.keep(0);
    Check.due("lodge", x.lodge(), 1);
    Check.due("join", x.join(), 12);
    x.row(0, 1, 3);
    Check.statute(x, "turn 0;", -1);
    x.feed(0, 0, 0, 0, 0);
    x.back(0);
    Check.due("the tape", x.count(6), 20);
    Check.due("slots", x.count(12), 2);
    Check.due("the fault", x.fault(0), 2);
    Check.due("its place", x.fault(1), 5);
    Check.due("lodged", x.lodged(0), 0);
    Check.due("joined", x.joined(0), 0);
    Check.due("rivals", x.rivals(), 1);
    x.keep(1);
    x.back(1);
    Check.due("lodged, by no image", x.lodged(0), 0);
    Check.due("joined, by no image", x.joined(0), 0);
  }

  private static void imagesStandApart() {
    NationSchool x = new NationSchool();
    x.village(0, 0, 0);
    x.keep(0);
    x.next(1);
    x.village(0, 0, 0);
    x.keep(1);
    x.next(1);
    x.village(0, 0, 0);
    x.keep(2);
    x.back(0);
    Check.due("image 0", x.count(1), 1);
    x.next(7);
    x.oath(0, 0);
    x.back(2);
    Check.due("image 2", x.count(1), 3);
    Check.due("image 2", x.count(0), 2);
    x.back(1);
    Check.due("image 1", x.count(1), 2);
    x.keep(0);
    x.back(2);
    x.back(0);
    Check.due("image 0 kept anew", x.count(1), 2);
    Check.due("image 0 kept anew", x.count(0), 1);
    Check.due("image 0 kept anew", x.count(2), 0);
  }

  /** Much of everything, another much for another seed. */
  private static void fill(NationSchool x, long seed) {
    Random random = new Random(seed);
    for (int i = 0; i < 12; i++) {
      x.village(random.nextInt(100), random.nextInt(100), random.nextInt(3));
      x.house(1 + random.nextInt(2), random.nextInt(1000), random.nextInt(1000));
    }
    for (int step = 0; step < 8; step++) {
      Check.statute(x, "nation " + random.nextInt(4) + " if x<" + random.nextInt(100) + " and y>" + random.nextInt(50) + ";nation "
          + random.nextInt(4) + " if land=" + random.nextInt(3) + ";fee 0 " + random.nextInt(50) + ";fee 1 9;turn "
          + (1 + random.nextInt(4)) + (random.nextBoolean() ? ";vote nations;" : ";part 40;"),
          step > 0 && random.nextBoolean() ? step - 1 : -1);
      for (int i = 0; i < 6; i++) {
        int person = x.oath(random.nextInt(12), random.nextInt(4));
        x.wish(person, random.nextInt(12));
        x.wish(person, random.nextInt(12));
        x.worth(person, random.nextInt(50));
        x.pay(person, 1 + random.nextInt(500));
      }
      x.moved(random.nextInt(12), random.nextInt(3));
      x.leave(random.nextInt(6 * step + 6));
      x.next(random.nextInt(90));
      x.call();
      for (int person = 0; person < 6 * step + 6; person++) {
        if (random.nextInt(3) > 0) {
          x.vote(step, person, random.nextInt(3) > 0);
        }
      }
      x.close(step);
      x.masters(1 + random.nextInt(50));
      x.feast(random.nextInt(4), 1 + random.nextInt(20));
      x.appeal(random.nextInt(12), random.nextInt(1000));
      x.entry(0, 100 + random.nextInt(4), random.nextInt(3), random.nextInt(3));
      x.entry(1, 100 + random.nextInt(4), random.nextInt(3), random.nextInt(3));
    }
    x.undo(random.nextInt(8));
    x.next(5);
    x.call();
    x.vote(8, random.nextInt(48), true);
  }

  /** What many calls answer, none of which changes what is told. */
  private static List<Integer> answers(NationSchool x) {
    List<Integer> all = new ArrayList<>();
    for (int what = 0; what <= 13; what++) {
      all.add(what == 6 || what == 12 ? 0 : x.count(what));
    }
    int today = x.count(0);
    for (int i = 0; i < 13; i++) {
      all.addAll(List.of(x.sways(i), x.claims(i, today, today), x.nation(i, today / 2, today), x.rent(i)));
    }
    for (int person = 0; person < 49; person++) {
      for (int day = 0; day <= today; day += 5) {
        all.add(x.even(person, day));
      }
      for (int what = 0; what < 4; what++) {
        all.add(x.personOf(person, what));
      }
      all.addAll(List.of(x.of(person, today), x.of(person, today / 2), x.fees(person, 3599, today),
          x.even(person, 3599), x.goes(person, 0), x.goes(person, 1)));
    }
    for (int election = 0; election < 10; election++) {
      for (int what = 0; what < 8; what++) {
        all.add(x.electionOf(election, what));
      }
      all.add(x.swing(election));
      for (int statute = 0; statute < 9; statute++) {
        all.add(x.under(election, statute));
      }
    }
    for (int day = 0; day < 3600; day += 7) {
      all.addAll(List.of(x.rector(day, today), x.force(day, today), x.force(today, day)));
    }
    for (int nation = 0; nation < 4; nation++) {
      all.addAll(List.of(x.purse(nation), x.part(nation), x.turn(nation, today), x.heads(nation, today, today)));
    }
    all.addAll(List.of(x.join(), x.rivals(), x.joined(0), x.joined(1), x.joined(2), x.joined(6), x.lodge()));
    for (int person = 0; person < 49; person++) {
      all.add(x.lodged(person));
    }
    return all;
  }

  /** What the open ELECTION and the next calls come to: this changes what is told. */
  private static List<Integer> whatFollows(NationSchool x) {
    List<Integer> all = new ArrayList<>(List.of(x.call(), x.close(8), x.electionOf(8, 4), x.electionOf(8, 5),
        x.call(), x.wish(3, 11), x.worth(3, 4), x.moved(2, 2), x.undo(1), x.undo(3), x.oath(11, 3)));
    all.addAll(answers(x));
    return all;
  }

  private static NationSchool fresh(long seed) {
    NationSchool x = new NationSchool();
    fill(x, seed);
    return x;
  }

  private static void twoBranches() {
    NationSchool x = new NationSchool();
    x.keep(0);
    fill(x, 1);
    x.keep(1);
    x.back(0);
    fill(x, 2);
    x.keep(2);
    x.back(1);
    Check.that("image 1 is as it was", answers(x).equals(answers(fresh(1))));
    x.back(2);
    Check.that("image 2 is as it was", answers(x).equals(answers(fresh(2))));
    Check.that("what follows on image 2", whatFollows(x).equals(whatFollows(fresh(2))));
    x.back(1);
    Check.that("what follows on image 1", whatFollows(x).equals(whatFollows(fresh(1))));
    x.back(0);
    fill(x, 3);
    Check.that("a third one", answers(x).equals(answers(fresh(3))));
    Check.that("what follows on it", whatFollows(x).equals(whatFollows(fresh(3))));
    Check.that("they differ", !answers(fresh(1)).equals(answers(fresh(2))));
  }

  private static void whatWasTakenBackLeavesNothing() {
    NationSchool x = new NationSchool();
    x.village(0, 0, 0);
    x.house(1, 1, 1);
    x.oath(0, 0);
    x.keep(0);
    x.oath(0, 0);
    x.wish(1, 0);
    x.call();
    x.vote(0, 0, true);
    x.vote(0, 1, true);
    x.close(0);
    x.back(0);
    x.oath(0, 0);
    Check.due("no wish is left", x.wish(1, 0), 1);
    x.call();
    Check.due("no vote is left", x.close(0), 0);
    Check.due("no vote is left", x.electionOf(0, 4), 0);
  }
}
