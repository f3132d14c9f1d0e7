/** Promises 20 to 25 and 51: fees, pay, feast, even, masters, part, purse. */
public final class CoinTest {
  private static final int NOTHING = -2000000000;

  public static void main(String[] args) {
    feesByYears();
    feesAsKnown();
    eachOwesItsOwn();
    payingAsKnownToday();
    paying();
    threeHundredTimes();
    feasts();
    severalLackingCoins();
    evenness();
    mastersByHeads();
    mastersWhoCantBePaid();
    Check.finish();
  }

  private static NationSchool fourNations() {
    NationSchool x = new NationSchool();
    Check.statute(x, "nation 0 if land=0; nation 1 if land=1; nation 2 if land=2; nation 3 if land=3;"
        + "fee 0 7; fee 1 5; fee 2 9; fee 1 10;");
    for (int land = 0; land < 5; land++) {
      x.village(land, land, land);
    }
    return x;
  }

  private static void feesByYears() {
    NationSchool x = fourNations();
    x.next(10);
    x.oath(0, 1);
    x.oath(4, 0);
    x.oath(0, 3);
    Check.due("ahead of the oath", x.fees(0, 9, 10), 0);
    Check.due("on its day", x.fees(0, 10, 10), 10);
    Check.due("a day less than a year", x.fees(0, 369, 10), 10);
    Check.due("a year", x.fees(0, 370, 10), 20);
    Check.due("all years", x.fees(0, 3599, 10), 100);
    Check.due("of no nation", x.fees(1, 10, 10), 7);
    Check.due("no line fee", x.fees(2, 3599, 10), 0);
    int[][] wrong = {{3, 0, 0}, {-1, 0, 0}, {0, -1, 0}, {0, 3600, 0}, {0, 0, -1}, {0, 0, 3600}};
    for (int[] w : wrong) {
      Check.due("fees", x.fees(w[0], w[1], w[2]), -2);
    }
    x.next(360);
    x.leave(0);
    Check.due("left that day", x.fees(0, 3599, 370), 10);
    x.next(1);
    x.leave(1);
    Check.due("left a day later", x.fees(1, 3599, 371), 14);
  }

  private static void feesAsKnown() {
    NationSchool x = fourNations();
    x.oath(0, 0);
    x.next(400);
    Check.statute(x, "fee 0 1000;");
    Check.due("up to it", x.fees(0, 719, 400), 14);
    Check.due("by the new one", x.fees(0, 720, 400), 1014);
    Check.due("as known ahead", x.fees(0, 720, 399), 21);
    x.next(400);
    Check.statute(x, "");
    Check.due("a statute without", x.fees(0, 3599, 800), 1014);
  }

  private static void eachOwesItsOwn() {
    NationSchool x = fourNations();
    x.oath(0, 0);
    x.next(100);
    x.oath(0, 1);
    x.pay(0, 3);
    x.pay(1, 40);
    Check.due("fees(1), the day ahead of a year", x.fees(1, 459, 100), 10);
    Check.due("fees(1), a year", x.fees(1, 460, 100), 20);
    Check.due("even(0)", x.even(0, 100), 3 - 7);
    Check.due("even(1)", x.even(1, 100), 40 - 10);
    Check.due("even(0) in a year", x.even(0, 459), 3 - 14);
    Check.due("even(1) in a year", x.even(1, 459), 40 - 10);
  }

  /** What is known on DAY 0 of those who took the oath later is that they are of no NATION. */
  private static void payingAsKnownToday() {
    NationSchool x = new NationSchool();
    x.village(0, 0, 0);
    x.next(10);
    Check.statute(x, "nation 2;");
    x.oath(0, 0);
    Check.due("of nation 2 as known today", x.pay(0, 50), 50);
    Check.due("purse(2)", x.purse(2), 50);
    Check.due("masters", x.masters(20), 30);
    Check.due("part(2)", x.part(2), 20);
  }

  private static void paying() {
    NationSchool x = fourNations();
    x.oath(2, 0);
    x.oath(4, 0);
    Check.due("pay", x.pay(0, 1), 1);
    Check.due("pay", x.pay(0, 9999), 10000);
    Check.due("no sum", x.pay(0, 0), -2);
    Check.due("no sum", x.pay(0, 10000), -2);
    Check.due("no nation", x.pay(1, 5), -2);
    Check.due("none such", x.pay(2, 5), -2);
    Check.due("none such", x.pay(-1, 5), -2);
    Check.due("purse(2)", x.purse(2), 10000);
    Check.due("purse(0)", x.purse(0), 0);
    Check.due("no purse", x.purse(4), -2);
    Check.due("no purse", x.purse(-1), -2);
    Check.due("times", x.count(9), 2);
    Check.due("sum", x.count(7), 10000);
    x.leave(0);
    Check.due("who is gone may pay", x.pay(0, 5), 10005);
    x.moved(2, 3);
    Check.due("of another nation since", x.pay(0, 5), 5);
    Check.due("purse(3)", x.purse(3), 5);
    Check.due("purse(2)", x.purse(2), 10005);
  }

  private static void threeHundredTimes() {
    NationSchool x = fourNations();
    x.oath(0, 0);
    x.oath(4, 0);
    for (int i = 1; i <= 300; i++) {
      Check.due("pay", x.pay(0, 2), 2 * i);
    }
    Check.due("a 301st", x.pay(0, 2), -3);
    Check.due("a 301st, wrong", x.pay(0, 0), -2);
    Check.due("a 301st, of no nation", x.pay(1, 1), -2);
    Check.due("times", x.count(9), 300);
    Check.due("purse", x.purse(0), 600);
    Check.due("even", x.even(0, 0), 593);
  }

  private static void feasts() {
    NationSchool x = fourNations();
    x.oath(1, 0);
    x.pay(0, 50);
    Check.due("no nation", x.feast(4, 1), -2);
    Check.due("no nation", x.feast(-1, 1), -2);
    Check.due("no sum", x.feast(1, 0), -2);
    Check.due("no sum", x.feast(1, 100000), -2);
    Check.due("less", x.feast(1, 51), -5);
    Check.due("less", x.feast(0, 1), -5);
    Check.due("less", x.feast(1, 99999), -5);
    Check.due("feast", x.feast(1, 20), 30);
    Check.due("feast", x.feast(1, 30), 0);
    Check.due("coins of feasts", x.count(8), 50);
    Check.due("purse", x.purse(1), 0);
  }

  private static void evenness() {
    NationSchool x = fourNations();
    x.next(5);
    x.oath(1, 0);
    x.oath(1, 0);
    Check.due("owes", x.even(0, 5), -7);
    Check.due("ahead of it", x.even(0, 4), 0);
    x.next(2);
    x.pay(0, 20);
    x.pay(1, 300);
    Check.due("ahead of what it paid", x.even(0, 6), -7);
    Check.due("paid", x.even(0, 7), 13);
    Check.due("in a year", x.even(0, 365), 6);
    Check.due("none such", x.even(2, 5), NOTHING);
    Check.due("none such", x.even(-1, 5), NOTHING);
    Check.due("no day", x.even(0, -1), NOTHING);
    Check.due("no day", x.even(0, 3600), NOTHING);
    Check.statute(x, "fee 0 100;");
    Check.due("as known today", x.even(0, 365), -87);
  }

  private static void mastersByHeads() {
    NationSchool x = fourNations();
    int[] villages = {0, 0, 0, 1, 1, 2, 4};
    for (int v : villages) {
      x.oath(v, 0);
    }
    x.pay(0, 1000);
    x.pay(3, 1000);
    x.pay(5, 1000);
    Check.due("part ahead of any", x.part(0), 0);
    Check.due("no part", x.part(4), -2);
    Check.due("no part", x.part(-1), -2);
    // 100 by 3, 2, 1 of 6: 50, 33 (rest 2), 16 (rest 4): the one that lacks is the third's.
    Check.due("masters(100)", x.masters(100), 2900);
    int[] parts = {50, 33, 17, 0};
    for (int n = 0; n < 4; n++) {
      Check.due("part(" + n + ")", x.part(n), parts[n]);
    }
    Check.due("purse(2)", x.purse(2), 983);
    // 3 by 3, 2, 1 of 6: 1 (rest 3), 1 (rest 0), 0 (rest 3): like rests, the lesser one.
    Check.due("masters(3)", x.masters(3), 2897);
    Check.due("part(0)", x.part(0), 2);
    Check.due("part(1)", x.part(1), 1);
    Check.due("part(2)", x.part(2), 0);
    Check.due("coins of masters", x.count(13), 103);
    x.leave(0);
    x.leave(1);
    x.leave(2);
    // 2 by 0, 2, 1 of 3: 1 (rest 1), 0 (rest 2).
    Check.due("masters(2)", x.masters(2), 2895);
    Check.due("part(0)", x.part(0), 0);
    Check.due("part(1)", x.part(1), 1);
    Check.due("part(2)", x.part(2), 1);
  }

  private static void severalLackingCoins() {
    NationSchool x = fourNations();
    int[] villages = {0, 1, 2, 3};
    for (int v : villages) {
      x.oath(v, 0);
      x.pay(v, 100);
    }
    x.leave(3);
    // 5 by 1 of 3 each: 1 (rest 2), and two that lack.
    Check.due("masters(5)", x.masters(5), 395);
    int[] parts = {2, 2, 1, 0};
    for (int n = 0; n < 4; n++) {
      Check.due("part(" + n + ")", x.part(n), parts[n]);
      Check.due("purse(" + n + ")", x.purse(n), 100 - parts[n]);
    }
    x.oath(1, 0);
    x.oath(3, 0);
    x.oath(3, 0);
    x.oath(3, 0);
    // 5 by 1, 2, 1, 3 of 7: 0 (rest 5), 1 (rest 3), 0 (rest 5), 2 (rest 1).
    Check.due("masters(5)", x.masters(5), 390);
    int[] then = {1, 1, 1, 2};
    for (int n = 0; n < 4; n++) {
      Check.due("part(" + n + ")", x.part(n), then[n]);
    }
    // 1 by 1, 2, 1, 3 of 7: nation 3's rest is the greatest.
    x.masters(1);
    Check.due("part(3)", x.part(3), 1);
    x.leave(4 + 1);
    x.leave(6);
    x.leave(7);
    // 1 by 1, 2, 1 of 4.
    x.masters(1);
    Check.due("part(1)", x.part(1), 1);
    x.feast(0, x.purse(0));
    Check.due("purse 0 has less", x.masters(4), -5);
  }

  private static void mastersWhoCantBePaid() {
    NationSchool x = fourNations();
    Check.due("no sum", x.masters(0), -2);
    Check.due("no sum", x.masters(100000), -2);
    Check.due("nobody", x.masters(1), -5);
    x.oath(4, 0);
    Check.due("nobody of a nation", x.masters(1), -5);
    x.oath(0, 0);
    x.pay(1, 10);
    x.keep(0);
    Check.due("one person is enough", x.masters(10), 0);
    x.back(0);
    x.oath(1, 0);
    Check.due("one has less", x.masters(20), -5);
    Check.due("nothing was paid", x.purse(0), 10);
    Check.due("no part", x.part(0), 0);
    Check.due("coins of masters", x.count(13), 0);
    x.pay(2, 9);
    Check.due("one has less by one", x.masters(20), -5);
    Check.due("19", x.masters(19), 0);
    Check.due("part(0)", x.part(0), 10);
    Check.due("refused", x.masters(19), -5);
    Check.due("the latest that was paid", x.part(0), 10);
    x.leave(1);
    x.leave(2);
    Check.due("gone", x.masters(1), -5);
  }
}
