/** Promises 35 to 40: house, appeal, rent, wish, lodge, lodged. */
public final class HouseTest {
  public static void main(String[] args) {
    houses();
    rents();
    wishes();
    lodging();
    lodgedStaysThroughBack();
    Check.finish();
  }

  private static void houses() {
    NationSchool x = new NationSchool();
    int[][] wrong = {{0, 1, 1}, {10, 1, 1}, {1, -1, 1}, {1, 1000, 1}, {1, 1, -1}, {1, 1, 1000}};
    for (int[] w : wrong) {
      Check.due("house", x.house(w[0], w[1], w[2]), -2);
    }
    for (int i = 0; i < 12; i++) {
      Check.due("house", x.house(i % 9 + 1, i, 999), i);
    }
    Check.due("a 13th", x.house(1, 1, 1), -3);
    Check.due("a 13th, wrong", x.house(0, 1, 1), -2);
    Check.due("count(5)", x.count(5), 12);
  }

  private static void rents() {
    NationSchool x = new NationSchool();
    Check.due("no house", x.rent(0), -2);
    x.house(1, 10, 15);
    x.house(1, 999, 0);
    Check.due("half, cut", x.rent(0), 12);
    Check.due("half, cut", x.rent(1), 499);
    Check.due("no house", x.rent(2), -2);
    Check.due("no house", x.rent(-1), -2);
    Check.due("no house", x.appeal(2, 1), -2);
    Check.due("no house", x.appeal(-1, 1), -2);
    Check.due("no sum", x.appeal(0, -1), -2);
    Check.due("no sum", x.appeal(0, 1000), -2);
    Check.due("rent stays", x.rent(0), 12);
    Check.due("above both", x.appeal(0, 999), 15);
    Check.due("below both", x.appeal(0, 0), 10);
    Check.due("between", x.appeal(0, 11), 11);
    Check.due("rent", x.rent(0), 11);
    Check.due("the other house", x.rent(1), 499);
    Check.due("between", x.appeal(1, 7), 7);
    Check.due("above", x.appeal(1, 999), 999);
    x.house(1, 300, 500);
    x.house(1, 700, 400);
    Check.due("half", x.rent(2), 400);
    Check.due("half", x.rent(3), 550);
    Check.due("below", x.appeal(2, 1), 300);
    Check.due("below", x.appeal(3, 1), 400);
    Check.due("above", x.appeal(2, 999), 500);
    Check.due("above", x.appeal(3, 999), 700);
  }

  private static void wishes() {
    NationSchool x = new NationSchool();
    x.village(0, 0, 0);
    x.oath(0, 0);
    Check.due("no house", x.wish(0, 0), -2);
    for (int i = 0; i < 6; i++) {
      x.house(1, 1, 1);
    }
    Check.due("no house", x.wish(0, 6), -2);
    Check.due("no house", x.wish(0, -1), -2);
    Check.due("no person", x.wish(1, 0), -2);
    Check.due("no person", x.wish(-1, 0), -2);
    for (int i = 0; i < 4; i++) {
      Check.due("wish", x.wish(0, 5 - i), i + 1);
      Check.due("it wished it", x.wish(0, 5 - i), -2);
    }
    Check.due("a fifth", x.wish(0, 0), -3);
    Check.due("a fifth that it wished", x.wish(0, 4), -2);
  }

  private static void lodging() {
    NationSchool x = new NationSchool();
    x.village(0, 0, 0);
    int[] ranks = {0, 2, 2, 3, 1, 3};
    for (int rank : ranks) {
      x.oath(0, rank);
    }
    x.house(1, 1, 1);
    x.house(2, 1, 1);
    x.house(1, 1, 1);
    int[][] wishes = {{0, 2}, {1, 0}, {1, 1}, {2, 0}, {2, 1}, {3, 1}, {4, 1}, {4, 0}, {5, 0}};
    for (int[] w : wishes) {
      x.wish(w[0], w[1]);
    }
    Check.due("ahead of any", x.lodged(0), -1);
    x.leave(5);
    // 3 into 1; 1 into 0; 2 into 1 (0 is taken); 4 finds 1 and 0 taken; 0 into 2; 5 is gone.
    Check.due("lodge", x.lodge(), 4);
    int[] due = {2, 0, 1, 1, -1, -1};
    for (int p = 0; p < due.length; p++) {
      Check.due("lodged(" + p + ")", x.lodged(p), due[p]);
    }
    Check.due("no person", x.lodged(6), -1);
    Check.due("no person", x.lodged(-1), -1);
    Check.due("no person", x.lodged(1000), -1);
    x.leave(3);
    Check.due("by the latest", x.lodged(3), 1);
    Check.due("lodge again", x.lodge(), 4);
    Check.due("gone", x.lodged(3), -1);
    Check.due("a room more", x.lodged(4), 1);
  }

  private static void lodgedStaysThroughBack() {
    NationSchool x = new NationSchool();
    x.village(0, 0, 0);
    x.keep(0);
    x.house(9, 1, 1);
    for (int p = 0; p < 80; p++) {
      x.oath(0, 0);
    }
    x.wish(0, 0);
    x.wish(79, 0);
    Check.due("lodge", x.lodge(), 2);
    x.keep(1);
    x.back(0);
    Check.due("found, though there is nobody", x.lodged(0), 0);
    Check.due("without a house", x.lodged(1), -1);
    Check.due("the last number", x.lodged(79), 0);
    Check.due("beyond all numbers", x.lodged(80), -1);
    Check.due("below all numbers", x.lodged(-1), -1);
    Check.due("far beyond", x.lodged(Integer.MAX_VALUE), -1);
    Check.due("far below", x.lodged(Integer.MIN_VALUE), -1);
    Check.due("another person of that number", x.oath(0, 3), 0);
    Check.due("by the latest lodge", x.lodged(0), 0);
    Check.due("lodge of nobody's wishes", x.lodge(), 0);
    Check.due("not by the latest", x.lodged(0), -1);
    x.back(1);
    Check.due("an image has not what was found", x.lodged(79), -1);
  }
}
