import java.util.ArrayList;
import java.util.List;

/** All that a school answers, and how it goes on from there; the school is used up by it. */
final class Probe {
  private final NationSchool school;
  private final List<Integer> answers = new ArrayList<>();

  private Probe(NationSchool school) {
    this.school = school;
  }

  static List<Integer> of(NationSchool school) {
    Probe probe = new Probe(school);
    probe.found();
    probe.told();
    probe.tape();
    probe.slots();
    probe.rest();
    for (int k = 0; k < 3; k++) {
      probe.add(school.back(k));
      probe.found();
      probe.told();
      probe.rest();
    }
    return probe.answers;
  }

  /** A school that has some of everything: two IMAGES, a TAPE, SLOTS, a FAULT, what was LODGED and JOINED. */
  static NationSchool richSchool() {
    NationSchool x = new NationSchool();
    x.village(10, 20, 0);
    x.village(50, 60, 1);
    x.village(90, 90, 2);
    Check.statute(x, "nation 0 if land=0; nation 1 if land=1; fee 0 7; fee 1 9; turn 1;");
    int[] villages = {0, 1, 2, 0, 1, 0};
    for (int p = 0; p < villages.length; p++) {
      x.oath(villages[p], p % 4);
      x.worth(p, p);
    }
    x.pay(0, 100);
    x.pay(1, 60);
    x.keep(0);
    x.next(10);
    elections(x);
    x.moved(1, 0);
    x.leave(3);
    houses(x);
    x.feast(0, 5);
    x.masters(9);
    for (int i = 0; i < 5; i++) {
      x.entry(i % 2, 100 + i, i % 3, i % 2);
    }
    x.join();
    x.keep(1);
    x.row(0, 0, 5);
    x.write(0, 1, 2);
    x.write(0, 2, 1);
    x.row(1, 1, 2);
    x.row(3, 0, 0);
    Check.due("a fault", Check.statute(x, "turn 0;", -1), -4);
    Check.tape(x, "nation 2;");
    return x;
  }

  /** 0 is carried, and passed STATUTE 1; 1 is not carried; 2 is VOID; 3 is open. */
  private static void elections(NationSchool x) {
    for (int e = 0; e < 4; e++) {
      x.call();
      for (int p = 0; p < 5; p++) {
        x.vote(e, p, p == 0 || e != 1);
      }
      if (e < 3) {
        x.close(e);
      }
      if (e == 0) {
        Check.statute(x, "nation 0 if land=0; nation 1 if x<60; fee 0 8; vote nations; turn 2;", 0);
      }
    }
    x.undo(2);
  }

  private static void houses(NationSchool x) {
    x.house(1, 10, 15);
    x.house(2, 20, 30);
    x.appeal(1, 29);
    x.wish(0, 0);
    x.wish(1, 0);
    x.wish(1, 1);
    x.wish(4, 1);
    x.lodge();
  }

  private void add(int... some) {
    for (int one : some) {
      answers.add(one);
    }
  }

  /** What was found: no IMAGE has it. */
  private void found() {
    add(school.fault(0), school.fault(1), school.rivals());
    for (int line = 0; line < 8; line++) {
      add(school.joined(line));
    }
    for (int person = 0; person < 10; person++) {
      add(school.lodged(person));
    }
  }

  /** What is told, by calls that change nothing of it. */
  private void told() {
    for (int what = 0; what < 14; what++) {
      add(school.count(what));
    }
    int today = school.count(0);
    for (int nation = 0; nation < 4; nation++) {
      add(school.purse(nation), school.part(nation), school.turn(nation, 0), school.turn(nation, today));
      add(school.heads(nation, today, today), school.sorted(nation, 0, today));
    }
    int[] days = {0, 9, 10, 29, 30, 60, 90, 3599};
    for (int day : days) {
      add(school.force(day, today), school.force(today, day), school.rector(day, today), school.rector(day, day));
    }
    villages(today);
    persons(today);
    elections();
    for (int house = 0; house < Math.min(school.count(5), 13); house++) {
      add(school.rent(house));
    }
    add(school.exodus(0), school.exodus(1), school.returns(0), school.judge(0));
  }

  private void villages(int today) {
    for (int village = 0; village < school.count(1); village++) {
      add(school.claims(village, today, today), school.nation(village, today, today));
      add(school.nation(village, 9, today), school.nation(village, 0, 0), school.sways(village));
    }
  }

  private void persons(int today) {
    for (int person = 0; person < school.count(2); person++) {
      for (int what = 0; what < 4; what++) {
        add(school.personOf(person, what));
      }
      add(school.of(person, today), school.fees(person, 3599, today), school.fees(person, 3599, 0));
      add(school.even(person, today), school.even(person, 9));
      add(school.goes(person, 0), school.goes(person, 1));
    }
  }

  private void elections() {
    for (int election = 0; election < school.count(4); election++) {
      for (int what = 0; what < 8; what++) {
        add(school.electionOf(election, what));
      }
      add(school.swing(election), school.under(election, 0), school.under(election, 1));
    }
  }

  /** The TAPE is seen by the STATUTE or the FAULT that it is. */
  private void tape() {
    add(school.statute(NationSchool.NONE), school.fault(0), school.fault(1));
    told();
  }

  /** A row is seen by the oaths taken from it, by where it ends, and by which rows are of its WIDTH. */
  private void slots() {
    for (int slot = 0; slot < 4; slot++) {
      for (int to = 0; to < 4; to++) {
        add(school.paste(slot, 0, to, 0, 0));
      }
    }
    for (int slot = 0; slot < 4; slot++) {
      int first = school.count(2);
      add(school.oaths(slot));
      for (int person = first; person < school.count(2); person++) {
        add(school.personOf(person, 0), school.personOf(person, 1));
      }
      int end = 0;
      while (end < 61 && school.write(slot, end, 0) == 0) {
        end++;
      }
      add(end, school.write(slot, end, 0));
    }
  }

  /** What only calls that tell something show: open votes, wishes, worths, how many words were told. */
  private void rest() {
    for (int person = 0; person < school.count(2); person++) {
      add(school.worth(person, 50));
      for (int house = 0; house < school.count(5); house++) {
        add(school.wish(person, house));
      }
    }
    for (int election = 0; election < school.count(4); election++) {
      add(school.close(election));
    }
    elections();
    add(school.call(), school.lodge(), school.join(), school.rivals());
    found();
    int words = 0;
    while (words < 41 && school.moved(0, 0) == 0) {
      words++;
    }
    add(words);
  }
}
