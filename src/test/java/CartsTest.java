/** Promises 21 to 23 and the carts of a week: who sends, what arrives, what could come. */
public final class CartsTest {
  private static final Check c = new Check();

  public static void main(String[] args) {
    sendsByGain();
    sendsRefusals();
    shutLandsSendNone();
    soldToTowns();
    tenLeaguesAWeek();
    broughtBack();
    lostAbove();
    oatsAndLoad();
    eatenAhead();
    severalOnTheirWay();
    oneBehindTheOther();
    pricesPaid();
    offeredAtOnce();
    twelveAtMost();
    brings();
    c.end("CartsTest");
  }

  /** Districts with hungry towns (0 none) on roads from district 0, where a dealer is. */
  private static NoSummer markets(int[] leagues, int[] towns) {
    NoSummer x = Check.world(0);
    x.holder(2, 0, 0);
    for (int i = 0; i < leagues.length; i++) {
      x.district(i % 2, 0);
      if (leagues[i] > 0) {
        x.road(0, i + 1, leagues[i]);
      }
      if (towns[i] > 0) {
        x.holder(1, i + 1, towns[i]);
      }
    }
    return x;
  }

  private static void sendsByGain() {
    NoSummer x = markets(new int[] {5, 4, 4, 0}, new int[] {7, 7, 7, 7});
    c.due(21, "20 each as read", x.sends(0), -4);
    x.go(1);
    c.due(21, "23 is not above 20 and 4", x.sends(0), -4);
    x.go(1);
    c.due(21, "26: gains 1, 2, 2: the least of several", x.sends(0), 2);
    x.road(0, 2, 0);
    c.due(21, "the other", x.sends(0), 3);
    x.road(0, 3, 6);
    c.due(21, "gains 1, none, 0", x.sends(0), 1);
    x.road(0, 1, 6);
    c.due(21, "gains 0: none", x.sends(0), -4);
    x.road(0, 4, 1);
    c.due(21, "a nearer one", x.sends(0), 4);
    x.road(0, 4, 0);
    x.road(3, 4, 1);
    x.road(0, 3, 3);
    c.due(21, "the nearer by one", x.sends(0), 3);
    x.holder(2, 3, 0);
    c.due(21, "a dealer elsewhere, nothing dearer", x.sends(5), -4);
  }

  private static void sendsRefusals() {
    NoSummer x = Check.world(0);
    for (int kind = 0; kind < 6; kind++) {
      x.holder(kind, 0, 0);
    }
    for (int kind = 0; kind < 6; kind++) {
      c.due(21, "sends of kind " + kind, x.sends(kind), kind == 2 ? -4 : -3);
    }
    c.due(21, "no holder", x.sends(6), -1);
    c.due(21, "no holder", x.sends(-1), -1);
  }

  private static void shutLandsSendNone() {
    NoSummer x = markets(new int[] {1, 1, 3}, new int[] {0, 7, 7});
    x.gives(0, 0, 100);
    x.gives(0, 1, 500);
    x.gives(0, 3, 2);
    x.force(0, 0, Check.law(x, "1=1"));
    c.due(21, "SHUT as in the last week", x.sends(0), -4);
    x.go(1);
    c.due(21, "the best of its own land, gain 23 - 19 - 3", x.sends(0), 3);
    x.force(0, 0, -1);
    c.due(21, "still as in the last week", x.sends(0), 3);
    x.force(0, 0, 0);
    x.go(1);
    c.due(18, "it sold within its land", x.about(2, 2), 20);
    c.due(18, "not out of it", x.about(1, 2), 0);
    x.force(0, 0, -1);
    x.go(1);
    c.due(18, "not shut any more", x.about(1, 2), 20);
    c.due(21, "nor when asked", x.sends(0), 2);
  }

  private static void soldToTowns() {
    NoSummer x = markets(new int[] {12}, new int[] {100});
    x.holder(1, 1, 5);
    x.gives(0, 0, 400);
    x.gives(0, 1, 100);
    x.gives(0, 3, 10);
    x.gives(1, 2, 150);
    x.gives(2, 2, 9);
    x.go(6);
    c.due(22, "one cart", x.count(4), 1);
    c.due(22, "its dealer", x.cart(0, 0), 0);
    c.due(22, "its district", x.cart(0, 1), 1);
    c.due(22, "its corn", x.cart(0, 2), 100);
    c.due(22, "its horses", x.cart(0, 3), 10);
    c.due(22, "leagues left", x.cart(0, 4), 2);
    c.due(22, "no part 5", x.cart(0, 5), -1);
    c.due(22, "no part -1", x.cart(0, -1), -1);
    c.due(22, "no cart 1", x.cart(1, 0), -1);
    c.due(22, "no cart -1", x.cart(-1, 0), -1);
    c.due(34, "horses with carts", x.count(8), 10);
    c.due(34, "corn with carts", x.count(5), 400);
    c.due(18, "six weeks of oats, and 12 on the way", x.about(0, 3), 100 - 60 - 12);
    c.due(18, "no horses at home", x.about(0, 5), 0);
    c.due(18, "corn is less", x.about(0, 2), 300);
    x.gives(0, 3, 995);
    x.go(1);
    c.due(18, "arrived", x.count(4), 0);
    c.due(18, "as far as the town has coin", x.about(0, 4), 150);
    c.due(18, "no coin left", x.about(1, 4), 0);
    c.due(18, "the first town has it", x.about(1, 2), 100);
    c.due(18, "not the second", x.about(2, 2), 0);
    NoSummer y = markets(new int[] {1}, new int[] {7});
    y.gives(0, 0, 3);
    y.gives(0, 1, 9);
    y.gives(0, 3, 1);
    y.gives(1, 2, 100);
    y.go(2);
    c.due(18, "a short way: there in the same week", y.count(4), 0);
    c.due(18, "23 by 10, cut, times 3", y.about(0, 4), 6);
    c.due(18, "horses come back", y.about(0, 5), 1);
  }

  /** Carts on their way after six weeks; 20 bushels for a town of seven at these leagues. */
  private static NoSummer sixWeeks(int leagues) {
    NoSummer x = markets(new int[] {leagues}, new int[] {7});
    x.gives(0, 0, 20);
    x.gives(0, 1, 100);
    x.gives(0, 3, 2);
    x.go(5);
    c.due(18, "none goes in five weeks by " + leagues, x.count(4), 0);
    c.due(18, "none came in five weeks by " + leagues, x.about(1, 2), 0);
    x.go(1);
    return x;
  }

  private static void tenLeaguesAWeek() {
    // 32 as read in week 5 is the first price above 19 and 10 to 12.
    NoSummer x = sixWeeks(10);
    c.due(18, "10 leagues: none left in the same week", x.count(4), 0);
    c.due(18, "so it arrived", x.about(1, 2), 20);
    c.due(18, "horses are back", x.about(0, 5), 2);
    NoSummer y = sixWeeks(11);
    c.due(18, "11 leagues: on its way", y.count(4), 1);
    c.due(22, "one league left", y.cart(0, 4), 1);
    c.due(18, "nothing arrived", y.about(1, 2), 0);
    c.due(18, "no horses yet", y.about(0, 5), 0);
    y.go(1);
    c.due(18, "in the next week", y.about(1, 2), 20);
  }

  /** Gives so much that a holder has 99999 of 0 corn, 1 oats or 2 coin. */
  private static void fill(NoSummer x, int holder, int what) {
    for (int i = 0; i < 11; i++) {
      x.gives(holder, what, Math.min(9999, 99999 - x.about(holder, 2 + what)));
    }
    c.due(9, "filled", x.about(holder, 2 + what), 99999);
  }

  private static void lostAbove() {
    NoSummer x = sixWeeks(12);
    c.due(22, "on its way", x.cart(0, 2), 20);
    fill(x, 0, 2);
    fill(x, 1, 0);
    x.gives(1, 2, 100);
    x.go(1);
    c.due(18, "corn of the town: seven eaten, the rest is lost", x.about(1, 2), 99999);
    c.due(18, "coin of the dealer is lost", x.about(0, 4), 99999);
    c.due(18, "and yet paid: 4 for each of 20", x.about(1, 4), 20);
    NoSummer y = markets(new int[] {12}, new int[] {0});
    y.holder(5, 1, 2);
    y.gives(0, 0, 40);
    y.gives(0, 1, 500);
    y.gives(0, 3, 4);
    y.go(6);
    c.due(22, "on its way", y.cart(0, 2), 40);
    fill(y, 0, 0);
    c.due(34, "with the cart's", y.count(5), 99999 + 40);
    y.go(1);
    c.due(18, "corn that comes back is lost", y.about(0, 2), 99999);
    c.due(34, "no cart any more", y.count(5), 99999);
  }

  private static void eatenAhead() {
    NoSummer x = markets(new int[] {1}, new int[] {7});
    x.gives(0, 0, 5);
    x.go(1);
    x.holder(2, 0, 10);
    x.gives(2, 0, 25);
    x.gives(2, 1, 6);
    x.gives(2, 3, 5);
    x.go(1);
    c.due(18, "ten eaten, fifteen sent", x.about(1, 2), 15);
    c.due(18, "none left", x.about(2, 2), 0);
    c.due(18, "five oats eaten, one for the way", x.about(2, 3), 0);
    c.due(18, "all horses are back", x.about(2, 5), 5);
    c.due(18, "no horses, no cart", x.about(0, 2), 5);
  }

  private static void oneBehindTheOther() {
    NoSummer x = markets(new int[] {22}, new int[] {7});
    x.holder(2, 0, 0);
    x.gives(0, 0, 500);
    x.gives(0, 1, 500);
    x.gives(0, 3, 3);
    x.gives(2, 0, 17);
    x.gives(2, 1, 500);
    // 45 as read in week 9 is the first price above 19 and 22.
    x.go(10);
    c.due(22, "the first", x.count(4), 1);
    x.gives(2, 3, 2);
    x.go(1);
    int[][] due = {{0, 1, 30, 3, 2}, {2, 1, 17, 2, 12}};
    for (int i = 0; i < 2; i++) {
      for (int part = 0; part < 5; part++) {
        c.due(22, "part " + part + " of cart " + i, x.cart(i, part), due[i][part]);
      }
    }
    c.due(22, "no third", x.cart(2, 0), -1);
    c.due(34, "horses of both", x.count(8), 5);
    c.due(34, "corn of both", x.count(5), 517);
    x.go(1);
    due[1][4] = 2;
    for (int part = 0; part < 5; part++) {
      c.due(22, "the second is the first now", x.cart(0, part), due[1][part]);
    }
    c.due(22, "no second", x.cart(1, 0), -1);
    c.due(18, "the first arrived", x.about(1, 2), 30);
  }

  private static void offeredAtOnce() {
    for (int corn = 41; corn <= 43; corn++) {
      NoSummer x = markets(new int[] {1}, new int[] {7});
      x.gives(0, 0, corn);
      x.gives(0, 1, 50);
      x.gives(0, 3, 5);
      x.go(2);
      c.due(18, "arrived", x.about(1, 2), corn);
      c.due(18, "above 28, that it keeps, " + (corn - 28), x.price(1), corn - 28 < 14 ? 26 : 23);
    }
  }

  private static void broughtBack() {
    NoSummer x = markets(new int[] {12}, new int[] {0});
    x.holder(5, 1, 2);
    x.gives(0, 0, 100);
    x.gives(0, 1, 500);
    x.gives(0, 3, 4);
    x.go(6);
    c.due(22, "on its way", x.count(4), 1);
    c.due(18, "corn at home", x.about(0, 2), 60);
    x.go(1);
    c.due(18, "no town: corn comes back", x.about(0, 2), 100);
    c.due(18, "paid by none", x.about(0, 4), 0);
    NoSummer y = markets(new int[] {12}, new int[] {7});
    y.gives(0, 0, 40);
    y.gives(0, 1, 9999);
    y.gives(0, 3, 4);
    y.go(6);
    y.gives(0, 3, 999);
    y.go(1);
    c.due(18, "horses 999 at most", y.about(0, 5), 999);
  }

  /** How many carts are on their way after six weeks, 12 leagues from a town. */
  private static int carts(int corn, int oats, int horses) {
    NoSummer x = markets(new int[] {12}, new int[] {7});
    x.gives(0, 0, corn);
    x.gives(0, 1, oats);
    x.gives(0, 3, horses);
    x.go(6);
    return x.count(4) == 1 ? x.cart(0, 2) : -1;
  }

  private static void oatsAndLoad() {
    c.due(18, "corn at most", carts(15, 100, 2), 15);
    c.due(18, "one bushel", carts(1, 100, 2), 1);
    c.due(18, "ten a horse", carts(50, 100, 2), 20);
    c.due(18, "oats enough: 6 weeks of 2, and 3", carts(50, 15, 2), 20);
    c.due(18, "one too few", carts(50, 14, 2), -1);
    NoSummer x = markets(new int[] {12}, new int[] {7});
    x.gives(0, 1, 100);
    x.gives(0, 3, 2);
    x.go(6);
    c.due(18, "no corn, no cart", x.count(4), 0);
    c.due(18, "no oats are lost", x.about(0, 3), 88);
    c.due(21, "it would send one", x.sends(0), 1);
    x.gives(0, 0, 5);
    x.holder(3, 0, 0);
    x.gives(2, 0, 500);
    x.gives(2, 1, 500);
    x.gives(2, 3, 5);
    for (int kind = 0; kind < 6; kind++) {
      int other = x.holder(kind == 2 ? 4 : kind, 0, 0);
      for (int what = 0; what < 4; what++) {
        x.gives(other, what, 500);
      }
    }
    x.go(1);
    c.due(18, "the dealer's cart, no store's, no ship's", x.count(4), 1);
    c.due(22, "of the dealer", x.cart(0, 0), 0);
  }

  /** Dealers in district 2, 18 leagues from the towns of 0 and 11 from those of 1. */
  private static void severalOnTheirWay() {
    NoSummer x = Check.world(0, 0, 0);
    x.road(2, 0, 18);
    x.holder(2, 2, 0);
    x.holder(2, 2, 0);
    x.holder(1, 0, 7);
    x.holder(1, 1, 7);
    x.gives(0, 0, 11);
    x.gives(1, 0, 12);
    x.gives(0, 1, 100);
    x.gives(1, 1, 100);
    x.gives(1, 3, 2);
    x.go(8);
    // 40 as read in week 7 is the first above 19 and 18.
    c.due(22, "one, to district 0", x.count(4), 1);
    c.due(22, "its district", x.cart(0, 1), 0);
    c.due(22, "its leagues left", x.cart(0, 4), 8);
    x.road(2, 1, 11);
    x.gives(0, 3, 3);
    x.go(1);
    c.due(22, "the first arrived, the second goes", x.count(4), 1);
    c.due(22, "its dealer", x.cart(0, 0), 0);
    c.due(22, "its district", x.cart(0, 1), 1);
    c.due(22, "its corn", x.cart(0, 2), 11);
    c.due(22, "its horses", x.cart(0, 3), 3);
    c.due(22, "one league left", x.cart(0, 4), 1);
    x.go(1);
    c.due(18, "arrived", x.count(4), 0);
    c.due(18, "corn of both but what was eaten", x.about(2, 2) + x.about(3, 2), 12 - 7 + 11);
  }

  private static void pricesPaid() {
    NoSummer x = markets(new int[] {1}, new int[] {7});
    x.gives(0, 0, 25);
    x.gives(0, 1, 9);
    x.gives(1, 2, 500);
    x.go(3);
    c.due(7, "price there", x.price(1), 29);
    x.gives(0, 3, 2);
    x.go(1);
    c.due(18, "2 for each of 20", x.about(0, 4), 40);
    c.due(18, "the town pays", x.about(1, 4), 460);
    c.due(18, "the town has them", x.about(1, 2), 20);
    NoSummer y = markets(new int[] {1}, new int[] {7});
    y.gives(0, 1, 50);
    y.gives(1, 2, 500);
    y.go(12);
    c.due(7, "price there", y.price(1), 76);
    y.gives(0, 0, 20);
    y.gives(0, 3, 2);
    y.go(1);
    c.due(18, "7 for each of 20", y.about(0, 4), 140);
    c.due(18, "the town pays", y.about(1, 4), 360);
  }

  private static void twelveAtMost() {
    NoSummer x = Check.world(0, 0);
    x.road(0, 1, 30);
    for (int i = 0; i < 13; i++) {
      x.holder(2, 0, 0);
      x.gives(i, 0, 50 + i);
      x.gives(i, 1, 40);
      x.gives(i, 3, 1);
    }
    x.holder(1, 1, 7);
    x.go(11);
    c.due(18, "50 as read is needed", x.count(4), 0);
    c.due(21, "read in week 11", x.sends(0), 1);
    x.go(1);
    c.due(18, "twelve", x.count(4), 12);
    for (int i = 0; i < 12; i++) {
      c.due(22, "by when they were sent", x.cart(i, 0), i);
      c.due(22, "leagues left", x.cart(i, 4), 20);
    }
    c.due(22, "no cart 12", x.cart(12, 0), -1);
    c.due(21, "how many carts are on their way isn't looked at", x.sends(12), 1);
    c.due(21, "nor whether it has horses", x.sends(0), 1);
    c.due(18, "the last one waits", x.about(12, 5), 1);
    x.gives(0, 3, 1);
    x.go(1);
    c.due(18, "still twelve", x.count(4), 12);
    x.go(1);
    c.due(18, "all arrived", x.count(4), 0);
    x.go(1);
    c.due(18, "then again", x.count(4), 12);
    c.due(22, "the first", x.cart(0, 0), 0);
    c.due(22, "two horses now", x.cart(0, 3), 2);
  }

  private static void brings() {
    NoSummer x = Check.world(0, 0, 0, 1);
    x.road(0, 1, 12);
    x.road(1, 2, 30);
    x.road(0, 1, 11);
    c.due(23, "1.1 rounded up", x.brings(0, 1, 1), 8);
    x.road(0, 1, 12);
    c.due(23, "10 horses", x.brings(0, 1, 10), 88);
    c.due(23, "1 horse", x.brings(0, 1, 1), 8);
    c.due(23, "by 42 leagues", x.brings(2, 0, 99), 990 - 416);
    c.due(23, "to itself", x.brings(0, 0, 3), 30);
    c.due(23, "no way", x.brings(0, 3, 3), -3);
    c.due(23, "no horse", x.brings(0, 1, 0), -1);
    c.due(23, "100 horses", x.brings(0, 1, 100), -1);
    c.due(23, "-1 ahead of -3", x.brings(0, 3, 100), -1);
    c.due(23, "no such", x.brings(4, 1, 1), -1);
    c.due(23, "no such", x.brings(-1, 1, 1), -1);
    c.due(23, "no such", x.brings(1, 4, 1), -1);
    c.due(23, "1 horse by 30 leagues", x.brings(1, 2, 1), 7);
    c.due(23, "99 horses by 12 leagues", x.brings(0, 1, 99), 990 - 119);
    c.due(23, "less than no horse", x.brings(0, 1, -1), -1);
    c.due(23, "no such", x.brings(0, -1, 1), -1);
    NoSummer y = Check.world(0, 0, 0, 0, 0, 0);
    for (int i = 0; i < 5; i++) {
      y.road(i, i + 1, 30);
    }
    c.due(23, "all eaten on the way", y.brings(0, 5, 9), 0);
    c.due(23, "just as much as it eats: 90 less 9 by 9", y.brings(0, 3, 9), 9);
  }
}
