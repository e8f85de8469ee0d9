/** Promises 24 to 31: relief, coin, ships that may be turned, acts. */
public final class ReliefTest {
  private static final Check c = new Check();

  public static void main(String[] args) {
    reliefByRanks();
    reliefByLaw();
    reliefOfMany();
    reliefRefusals();
    coin();
    turn();
    turning();
    turningOfSeveral();
    turningOfTheFirstFive();
    turningByShortLists();
    turningRefusals();
    turnedRefusals();
    behind();
    behindByWeather();
    behindRefusals();
    worst();
    worstByWeatherAsItIs();
    worstWithNews();
    worstRefusals();
    best();
    bestRefusals();
    c.end("ReliefTest");
  }

  /** A store in land 0 and towns of 8, 20, 8 and 5 there, of 30 in land 1. */
  private static NoSummer hungryTowns() {
    NoSummer x = Check.world(0, 1, 0);
    x.holder(3, 0, 0);
    x.holder(1, 0, 8);
    x.holder(1, 2, 20);
    x.holder(1, 0, 8);
    x.holder(1, 2, 5);
    x.holder(1, 1, 30);
    x.holder(5, 0, 40);
    x.gives(0, 2, 1000);
    return x;
  }

  private static void reliefByRanks() {
    NoSummer x = hungryTowns();
    c.due(24, "none is hungry", x.relief(0, 100), 0);
    x.go(1);
    c.due(24, "the hungriest, then the least of like ones", x.relief(0, 299), 29);
    c.due(24, "town of 20", x.about(2, 4), 200);
    c.due(24, "first town of 8", x.about(1, 4), 80);
    c.due(24, "whole mouths of the second", x.about(3, 4), 10);
    c.due(24, "none for the least", x.about(4, 4), 0);
    c.due(24, "none for another land", x.about(5, 4), 0);
    c.due(24, "none for walkers", x.about(6, 4), 0);
    c.due(24, "nine stay with the store", x.about(0, 4), 710);
    c.due(24, "hungry as before", x.relief(0, 710), 41);
    c.due(24, "more than there is need of", x.about(0, 4), 300);
    c.due(24, "town of 5", x.about(4, 4), 50);
    c.due(24, "too little for a mouth", x.relief(0, 9), 0);
    c.due(24, "nothing went", x.about(0, 4), 300);
    c.due(24, "just enough for one", x.relief(0, 10), 1);
    NoSummer y = Check.world(0, 1);
    y.holder(1, 0, 1);
    y.holder(3, 0, 0);
    y.holder(3, 1, 0);
    y.gives(1, 2, 9999);
    y.gives(2, 2, 9999);
    y.go(1);
    c.due(24, "the first holder, of another land", y.relief(2, 9999), 0);
    c.due(24, "it got none", y.about(0, 4), 0);
    c.due(24, "the first holder, one hungry", y.relief(1, 9999), 1);
    c.due(24, "it got ten", y.about(0, 4), 10);
  }

  private static void reliefByLaw() {
    NoSummer x = hungryTowns();
    Check.law(x, "h<9&k=1&b=0");
    Check.law(x, "1=1");
    x.force(0, 1, 0);
    x.force(1, 1, 1);
    c.due(24, "the law holds, none is hungry", x.relief(0, 50), 0);
    x.go(1);
    c.due(24, "not the town of 20", x.relief(0, 300), 21);
    c.due(24, "none to it", x.about(2, 4), 0);
    c.due(24, "to the others", x.about(4, 4), 50);
    x.force(0, 1, -1);
    for (int i = 0; i < 10; i++) {
      x.gives(2, 2, 9999);
    }
    c.due(24, "without the law", x.relief(0, 100), 10);
    c.due(24, "what would be above is lost", x.about(2, 4), 99999);
    c.due(24, "and yet given", x.about(0, 4), 1000 - 210 - 100);
  }

  /** Twelve towns of 1 to 6 mouths, each size twice, the lesser first. */
  private static void reliefOfMany() {
    NoSummer x = Check.world(3);
    for (int i = 0; i < 12; i++) {
      x.holder(1, 0, 1 + i / 2);
    }
    x.holder(3, 0, 0);
    x.gives(12, 2, 9999);
    x.go(1);
    c.due(24, "6, 6, 5, 5, 4 and one of the other 4", x.relief(12, 270), 27);
    int[] due = {0, 0, 0, 0, 0, 0, 40, 10, 50, 50, 60, 60};
    for (int i = 0; i < 12; i++) {
      c.due(24, "coin of " + i, x.about(i, 4), due[i]);
      c.due(24, "hungry as before: " + i, x.about(i, 7), 1 + i / 2);
    }
    c.due(24, "the rest", x.about(12, 4), 9999 - 270);
    c.due(24, "all that are hungry", x.relief(12, 9999 - 270), 42);
    c.due(24, "what was too much", x.about(12, 4), 9999 - 270 - 420);
    c.due(34, "no coin is lost", x.count(7), 9999);
  }

  private static void reliefRefusals() {
    NoSummer x = hungryTowns();
    x.gives(1, 2, 500);
    x.holder(2, 0, 0);
    x.gives(7, 2, 500);
    c.due(24, "a town", x.relief(1, 1), -3);
    c.due(24, "a dealer", x.relief(7, 1), -3);
    c.due(24, "not so many", x.relief(0, 1001), -3);
    c.due(24, "just so many", x.relief(0, 1000), 0);
    c.due(24, "none", x.relief(0, 0), -1);
    c.due(24, "10000", x.relief(0, 10000), -1);
    c.due(24, "-1 ahead of -3", x.relief(1, 0), -1);
    for (int kind = 0; kind < 6; kind++) {
      NoSummer y = Check.world(0);
      y.holder(kind, 0, 0);
      y.gives(0, 2, 10);
      c.due(24, "by kind " + kind, y.relief(0, 10), kind == 3 ? 0 : -3);
      c.due(26, "kind " + kind + " is turned", y.turn(0, 0, 0), kind == 4 ? -3 : -1);
    }
    c.due(24, "no holder", x.relief(8, 1), -1);
    c.due(24, "no holder", x.relief(-1, 1), -1);
  }

  private static void coin() {
    NoSummer x = Check.world(0);
    c.due(25, "bread", x.coin(0, 101, 0), 50);
    c.due(25, "wage", x.coin(0, 101, 1), 33);
    c.due(25, "seed", x.coin(0, 101, 2), 300);
    c.due(25, "bread of one", x.coin(0, 1, 0), 0);
    x.holder(1, 0, 7);
    x.go(1);
    c.due(25, "bread at 23", x.coin(0, 101, 0), 43);
    c.due(25, "seed at 23", x.coin(0, 101, 2), 258);
    c.due(25, "9999 at 23", x.coin(0, 9999, 0), 4347);
    c.due(25, "seed of 9999 at 23", x.coin(0, 9999, 2), 26082);
    c.due(25, "wage of 9999", x.coin(0, 9999, 1), 3333);
    c.due(25, "wage of 2", x.coin(0, 2, 1), 0);
    c.due(25, "wage of 3", x.coin(0, 3, 1), 1);
    c.due(25, "bread of 2 at 23", x.coin(0, 2, 0), 0);
    c.due(25, "bread of 3 at 23", x.coin(0, 3, 0), 1);
    c.due(25, "seed of 2 at 23", x.coin(0, 2, 2), 0);
    c.due(25, "-1", x.coin(0, -1, 1), -1);
    c.due(25, "none", x.coin(0, 0, 0), -1);
    c.due(25, "10000", x.coin(0, 10000, 0), -1);
    c.due(25, "as 3", x.coin(0, 1, 3), -1);
    c.due(25, "as -1", x.coin(0, 1, -1), -1);
    c.due(25, "no district", x.coin(1, 1, 0), -1);
    c.due(25, "no district", x.coin(-1, 1, 1), -1);
  }

  private static void turn() {
    NoSummer x = Check.world(0, 0, 0, 0);
    x.road(0, 1, 19);
    x.road(1, 2, 11);
    x.holder(4, 0, 0);
    x.holder(1, 0, 0);
    c.due(26, "it lies", x.turn(0, 1, 0), -3);
    x.goal(0, 0, 6);
    c.due(26, "the word comes too late", x.turn(0, 1, 6), -3);
    c.due(26, "later still", x.turn(0, 1, 7), -3);
    c.due(26, "much later", x.turn(0, 1, 30), -3);
    c.due(26, "19 by 10, cut", x.turn(0, 1, 5), 7);
    c.due(26, "its goal", x.about(0, 14), 1);
    c.due(26, "its weeks", x.about(0, 13), 7);
    c.due(26, "to where it goes", x.turn(0, 1, 0), 7);
    c.due(26, "no way", x.turn(0, 3, 0), -3);
    c.due(26, "its goal as it was", x.about(0, 14), 1);
    x.turn(0, 2, 0);
    c.due(26, "by the least leagues from its goal", x.turn(0, 0, 7), 11);
    c.due(26, "word 31", x.turn(0, 1, 31), -1);
    c.due(26, "word -1", x.turn(0, 1, -1), -1);
    c.due(26, "no district", x.turn(0, 4, 0), -1);
    c.due(26, "no ship", x.turn(1, 1, 0), -1);
    c.due(26, "no holder", x.turn(2, 1, 0), -1);
    c.due(26, "no holder", x.turn(-1, 1, 0), -1);
    x.go(11);
    c.due(26, "it arrived", x.about(0, 1), 0);
    c.due(26, "it can't be turned any more", x.turn(0, 1, 0), -3);
    c.due(26, "nor by a later word", x.turn(0, 1, 3), -3);
    x.goal(0, 0, 30);
    c.due(26, "word 30 for 30 weeks", x.turn(0, 2, 30), -3);
    c.due(26, "beyond 30", x.turn(0, 2, 29), 33);
    c.due(26, "word 30", x.turn(0, 0, 30), 36);
    x.goal(0, 0, 1);
    c.due(26, "one week, word 1", x.turn(0, 1, 1), -3);
    c.due(26, "one week, word 0", x.turn(0, 1, 0), 2);
    x.road(0, 1, 9);
    c.due(26, "9 by 10: none more", x.turn(0, 0, 0), 2);
    x.road(0, 1, 10);
    c.due(26, "10 by 10", x.turn(0, 1, 0), 3);
  }

  private static void ship(NoSummer x, int number, int corn, int goal, int weeks) {
    x.holder(4, 0, 0);
    x.gives(number, 0, corn);
    x.goal(number, goal, weeks);
  }

  private static void turning() {
    NoSummer x = Check.world(0, 1, 2);
    ship(x, 0, 150, 0, 5);
    ship(x, 1, 300, 1, 9);
    Check.list(x, 0, 1, 2);
    c.due(27, "nobody eats there", x.turning(0, 0), 0);
    x.holder(1, 1, 20);
    x.holder(1, 2, 3);
    x.holder(1, 2, 2);
    x.holder(5, 2, 400);
    x.holder(2, 2, 400);
    c.due(27, "200 and 50, without ways", x.turning(0, 2), 250);
    c.due(28, "the first is turned", x.turned(0, 2, 0), 2);
    c.due(28, "the second isn't", x.turned(0, 2, 1), 1);
    c.due(27, "a word too late for the first", x.turning(0, 5), 200);
    c.due(28, "the first keeps its goal", x.turned(0, 5, 0), 0);
    c.due(27, "a word too late for both", x.turning(0, 9), 200);
    c.due(27, "later still", x.turning(0, 30), 200);
    c.due(28, "the first keeps its goal still", x.turned(0, 30, 0), 0);
    Check.list(x, 1, 2);
    c.due(27, "another list", x.turning(1, 4), 250);
    Check.list(x, 2, 0, 0, 0);
    c.due(27, "the same thrice", x.turning(2, 4), 200);
    c.due(28, "kept", x.turned(2, 4, 1), 1);
    c.due(28, "asking turns none", x.about(0, 14), 0);
    x.goal(1, 1, 0);
    c.due(27, "one that lies isn't among them", x.turning(0, 2), 150);
    c.due(28, "it isn't", x.turned(0, 2, 1), -4);
    c.due(28, "the first of the list", x.turned(0, 2, 0), 1);
    NoSummer y = Check.world(0, 0);
    Check.list(y, 0, 0);
    c.due(27, "no ships", y.turning(0, 0), 0);
    ship(y, 0, 30, 1, 1);
    y.holder(1, 0, 2);
    c.due(27, "one week to go, told at once", y.turning(0, 0), 20);
    c.due(28, "turned", y.turned(0, 0, 0), 0);
    c.due(27, "told in a week", y.turning(0, 1), 0);
    c.due(28, "too late", y.turned(0, 1, 0), 1);
  }

  private static void turningOfSeveral() {
    NoSummer x = Check.world(0, 0, 0, 0);
    ship(x, 0, 100, 0, 5);
    ship(x, 1, 100, 0, 5);
    x.holder(1, 1, 10);
    x.holder(1, 2, 10);
    x.holder(1, 3, 10);
    Check.list(x, 0, 3, 1, 2);
    c.due(27, "two of three", x.turning(0, 0), 200);
    c.due(28, "the first of the list", x.turned(0, 0, 0), 3);
    c.due(28, "then the next", x.turned(0, 0, 1), 1);
    x.goal(0, 2, 5);
    c.due(28, "the first keeps its goal ahead of the list", x.turned(0, 0, 0), 2);
    c.due(28, "the next goes first in the list", x.turned(0, 0, 1), 3);
    x.goal(0, 0, 5);
    x.goal(1, 3, 5);
    c.due(27, "200 still", x.turning(0, 0), 200);
    c.due(28, "the first ship's choice counts most", x.turned(0, 0, 0), 3);
    c.due(28, "the next turns, since the first took its goal", x.turned(0, 0, 1), 1);
    Check.list(x, 0, 0, 0, 2);
    c.due(27, "the third of a list", x.turning(0, 0), 200);
    c.due(28, "goes where most are served", x.turned(0, 0, 0), 2);
    Check.list(x, 0, 1, 2);
    c.due(28, "the first of that list", x.turned(0, 0, 0), 1);
    c.due(28, "it keeps its goal", x.turned(0, 0, 1), 3);
    NoSummer y = Check.world(0, 0);
    ship(y, 0, 50, 0, 5);
    ship(y, 1, 50, 0, 5);
    y.holder(1, 1, 5);
    Check.list(y, 0, 1);
    c.due(27, "one is enough", y.turning(0, 0), 50);
    c.due(28, "the first stays", y.turned(0, 0, 0), 0);
    c.due(28, "the second goes", y.turned(0, 0, 1), 1);
  }

  private static void turningOfTheFirstFive() {
    NoSummer x = Check.world(0, 0, 0);
    ship(x, 0, 10, 0, 0);
    for (int i = 1; i < 7; i++) {
      ship(x, i, 10, 0, 5);
    }
    x.holder(1, 1, 3);
    x.holder(1, 2, 50);
    Check.list(x, 0, 1, 2);
    c.due(27, "five of ten each", x.turning(0, 0), 50);
    c.due(28, "three to the first", x.turned(0, 0, 1), 1);
    c.due(28, "three to the first", x.turned(0, 0, 3), 1);
    c.due(28, "the others to the second", x.turned(0, 0, 4), 2);
    c.due(28, "the fifth", x.turned(0, 0, 5), 2);
    c.due(28, "the sixth isn't among them", x.turned(0, 0, 6), -4);
    c.due(28, "the one that lies isn't", x.turned(0, 0, 0), -4);
    x.goal(1, 0, 0);
    c.due(28, "the sixth is the fifth now", x.turned(0, 0, 6), 2);
  }

  /** Most are served in district 0: but none goes there if the list doesn't tell it. */
  private static void turningByShortLists() {
    NoSummer x = Check.world(0, 0, 0, 0);
    ship(x, 0, 300, 3, 9);
    ship(x, 1, 300, 3, 8);
    x.holder(1, 0, 20);
    x.holder(1, 1, 1);
    x.holder(1, 2, 2);
    Check.list(x, 0, 1);
    c.due(27, "one on the list", x.turning(0, 0), 10);
    c.due(28, "the first keeps its goal", x.turned(0, 0, 0), 3);
    c.due(28, "the second goes", x.turned(0, 0, 1), 1);
    Check.list(x, 0, 1, 2);
    c.due(27, "two on the list", x.turning(0, 0), 30);
    c.due(28, "the first to the first", x.turned(0, 0, 0), 1);
    c.due(28, "the second to the second", x.turned(0, 0, 1), 2);
    Check.list(x, 0, 1, 2, 0);
    c.due(27, "three on the list", x.turning(0, 0), 220);
    c.due(28, "the first to the second", x.turned(0, 0, 0), 2);
    c.due(28, "the second to the third", x.turned(0, 0, 1), 0);
    c.due(27, "a word too late for the second", x.turning(0, 8), 200);
    c.due(28, "the first to the third", x.turned(0, 8, 0), 0);
    c.due(28, "the second as it was", x.turned(0, 8, 1), 3);
  }

  private static void turningRefusals() {
    NoSummer x = Check.world(0, 1);
    ship(x, 0, 10, 0, 5);
    Check.list(x, 0, 1);
    c.due(27, "no shelf", x.turning(8, 0), -1);
    c.due(27, "no shelf", x.turning(-1, 0), -1);
    c.due(27, "word -1", x.turning(0, -1), -1);
    c.due(27, "word 31", x.turning(0, 31), -1);
    c.due(27, "-1 ahead of -11", x.turning(1, 31), -1);
    c.due(27, "word 30", x.turning(0, 30), 0);
    c.due(27, "nothing", x.turning(1, 0), -11);
    x.keep(1, 1, 0);
    c.due(27, "a holder", x.turning(1, 0), -12);
    x.row(1, 1, 1);
    c.due(27, "shorts", x.turning(1, 0), -12);
    x.row(1, 0, 0);
    c.due(27, "none", x.turning(1, 0), -13);
    Check.list(x, 1, 0, 1, 0, 1);
    c.due(27, "four", x.turning(1, 0), -13);
    Check.list(x, 1, 0, 1, 2);
    c.due(27, "no such district", x.turning(1, 0), -13);
    Check.list(x, 1, -1);
    c.due(27, "no such district", x.turning(1, 0), -13);
  }

  private static void turnedRefusals() {
    NoSummer x = Check.world(0, 1);
    ship(x, 0, 10, 0, 5);
    x.holder(2, 0, 0);
    ship(x, 2, 10, 0, 0);
    Check.list(x, 0, 1);
    c.due(28, "no shelf", x.turned(8, 0, 0), -1);
    c.due(28, "word 31", x.turned(0, 31, 0), -1);
    c.due(28, "word -1", x.turned(0, -1, 0), -1);
    c.due(28, "no ship", x.turned(0, 0, 1), -1);
    c.due(28, "no holder", x.turned(0, 0, 3), -1);
    c.due(28, "no holder", x.turned(0, 0, -1), -1);
    c.due(28, "-1 ahead of -11", x.turned(1, 0, 1), -1);
    c.due(28, "nothing", x.turned(1, 0, 0), -11);
    c.due(28, "-4 ahead of -11", x.turned(1, 0, 2), -4);
    c.due(28, "no shelf, -1 ahead of -4", x.turned(8, 0, 2), -1);
    c.due(28, "no shelf, -1 ahead of -4", x.turned(-1, 0, 2), -1);
    c.due(28, "word 31, -1 ahead of -4", x.turned(0, 31, 2), -1);
    x.keep(1, 1, 0);
    c.due(28, "a holder", x.turned(1, 0, 0), -12);
    x.row(1, 2, 1);
    c.due(28, "ints", x.turned(1, 0, 0), -12);
    c.due(28, "-4 ahead of -12", x.turned(1, 0, 2), -4);
    Check.list(x, 1, 0, 0, 0, 0);
    c.due(28, "four", x.turned(1, 0, 0), -13);
    c.due(28, "-4 ahead of -13", x.turned(1, 0, 2), -4);
  }

  private static void behind() {
    NoSummer x = new NoSummer();
    Check.law(x, "r>0");
    Check.law(x, "r>1");
    Check.law(x, "1=1");
    Check.law(x, "r=0");
    x.force(1, 0, 0);
    x.force(2, 0, 1);
    c.due(29, "r is of the week ahead", x.behind(0, 1), 0);
    c.due(29, "the next week land 1", x.behind(0, 2), 2);
    c.due(29, "then land 2 as well", x.behind(0, 3), 2 + 4);
    c.due(29, "whom land 2 shuts", x.behind(2, 3), 2);
    c.due(29, "its own law doesn't matter", x.force(0, 0, 2), -4);
    c.due(29, "the same", x.behind(0, 3), 2 + 4);
    x.force(0, 0, -1);
    x.force(3, 0, 3);
    c.due(29, "land 3 sets off land 1 in either case", x.behind(0, 4), 4);
    x.force(3, 0, 2);
    c.due(29, "land 1 is shut in either case, behind land 3", x.behind(0, 2), 4);
    c.due(29, "a week later land 2, too", x.behind(0, 3), 0);
    c.due(29, "one week ahead of that", x.behind(1, 2), 4);
    c.due(29, "now as it was", x.count(3), 0);
    x.go(3);
    c.due(29, "the real weeks weren't touched", x.record(0, 12), 8);
    c.due(29, "nor the laws", x.record(2, 12), 2 + 4 + 8);
  }

  /** Land 1 shuts behind land 0 when corn is cheap there, as after a harvest. */
  private static void behindByWeather() {
    NoSummer x = Check.world(1);
    x.holder(0, 0, 0);
    x.field(0, 10);
    x.gives(0, 0, 10);
    x.force(1, 0, Check.law(x, "r>0&p<20"));
    Check.steadyWeather(x, 1, 0, 5);
    x.go(20);
    x.field(0, 0);
    c.due(29, "no warmth, no harvest", x.behind(0, 17), 0);
    Check.steadyWeather(x, 1, 1, 5);
    c.due(29, "ahead of the harvest", x.behind(0, 16), 0);
    c.due(29, "behind the harvest, by weather as it is", x.behind(0, 17), 2);
  }

  private static void behindRefusals() {
    NoSummer x = new NoSummer();
    c.due(29, "land 4", x.behind(4, 1), -1);
    c.due(29, "land -1", x.behind(-1, 1), -1);
    c.due(29, "0 weeks", x.behind(0, 0), -1);
    c.due(29, "31 weeks", x.behind(0, 31), -1);
    c.due(29, "30 weeks", x.behind(0, 30), 0);
    for (int i = 0; i < 5; i++) {
      x.go(26);
    }
    c.due(29, "beyond 156", x.behind(0, 27), -2);
    c.due(29, "to 156", x.behind(0, 26), 0);
    c.due(29, "-1 ahead of -2", x.behind(0, 31), -1);
    c.due(29, "still now", x.count(3), 130);
  }

  /** A farm that has just enough to the harvest, in week 10. */
  private static NoSummer farmBeforeHarvest(int warm, int height) {
    NoSummer x = new NoSummer();
    x.district(1, height);
    x.holder(0, 0, 2);
    x.field(0, 10);
    x.gives(0, 0, 30 + 10 + 75);
    Check.steadyWeather(x, 1, warm, 5);
    x.go(10);
    return x;
  }

  /** A town of ten with coin, and a store with 20 to sell, if it must. */
  private static NoSummer townAndStore() {
    NoSummer x = Check.world(0);
    x.holder(1, 0, 10);
    x.holder(3, 0, 0);
    x.gives(0, 2, 1000);
    x.gives(1, 0, 120);
    return x;
  }

  private static void worst() {
    NoSummer x = farmBeforeHarvest(2, 0);
    c.due(30, "to the week ahead of the harvest", x.worst(0, 0, -1, 25), 0);
    c.due(30, "3 less warm: no harvest", x.worst(0, 0, -1, 26), 2);
    x = farmBeforeHarvest(5, 2);
    c.due(30, "3 less warm at a height: no harvest", x.worst(0, 0, -1, 30), 2);
    x = farmBeforeHarvest(3, 0);
    c.due(30, "3 less warm than 3", x.worst(0, 0, -1, 26), 2);
    x = farmBeforeHarvest(5, 0);
    c.due(30, "3 less warm: harvest enough", x.worst(0, 0, -1, 30), 0);
    x.go(15);
    c.due(30, "from the midst of the year", x.worst(0, 0, -1, 15), 0);
    x = farmBeforeHarvest(5, 0);
    c.due(30, "nothing went by", x.count(3), 10);
    x.go(26);
    c.due(30, "warm as it was: 10 by 115 by 20, less 3", x.about(0, 2), 57 - 3);
    NoSummer y = Check.world(0);
    y.holder(1, 0, 80);
    c.due(30, "the greatest week, the first", y.worst(0, 0, -1, 5), 80);
    y.gives(0, 0, 150);
    c.due(30, "the third", y.worst(0, 0, -1, 3), 80);
    c.due(30, "the second", y.worst(0, 0, -1, 2), 10);
    c.due(30, "the first", y.worst(0, 0, -1, 1), 0);
    NoSummer z = townAndStore();
    Check.law(z, "k=3");
    Check.law(z, "k=2");
    c.due(30, "none: the store keeps it", z.worst(0, 2, -1, 2), 10);
    c.due(30, "by the law it sells", z.worst(0, 2, 0, 2), 0);
    c.due(30, "for two weeks", z.worst(0, 2, 0, 3), 10);
    c.due(30, "another purpose", z.worst(0, 0, 0, 2), 10);
    c.due(30, "another land", z.worst(1, 2, 0, 2), 10);
    Check.law(z, "r=0");
    c.due(30, "no land is shut", z.worst(0, 2, 2, 2), 0);
    z.force(0, 0, Check.law(z, "1=1"));
    c.due(30, "one is", z.worst(0, 2, 2, 2), 10);
    z.force(0, 2, 0);
    c.due(30, "none in the place of it", z.worst(0, 2, -1, 2), 10);
    c.due(30, "it is still in force", z.force(0, 2, 1), 0);
  }

  /**
   * Where only a full harvest makes corn so cheap that land 0 is shut, and a store sells only
   * while no land is shut: the greater hunger is by the warmer weather.
   */
  private static void worstByWeatherAsItIs() {
    NoSummer x = Check.world(0, 1);
    x.holder(0, 0, 0);
    x.field(0, 10);
    x.gives(0, 0, 10);
    Check.steadyWeather(x, 0, 9, 5);
    x.force(0, 0, Check.law(x, "p<20"));
    x.force(1, 2, Check.law(x, "k=3&r=0"));
    x.go(26);
    x.go(4);
    // 103 are reaped, or 96 by colder weeks, of which a farm with this field keeps 96.
    x.field(0, 12);
    x.holder(1, 1, 10);
    x.holder(3, 1, 0);
    x.gives(1, 2, 1000);
    x.gives(2, 0, 200);
    c.due(30, "until the harvest", x.worst(2, 0, -1, 6), 0);
    c.due(30, "behind it, by weather as it is", x.worst(2, 0, -1, 7), 10);
    x.field(0, 13);
    c.due(30, "if all is kept", x.worst(2, 0, -1, 10), 0);
    x.field(0, 12);
    x.go(7);
    c.due(30, "so it comes", x.about(1, 7), 10);
    c.due(19, "land 0 is shut", x.record(36, 12), 1);
  }

  /** A town that has corn until a cart comes, if the news of its prices is known. */
  private static void worstWithNews() {
    NoSummer x = Check.world(0, 0);
    x.road(0, 1, 12);
    x.holder(2, 0, 0);
    x.holder(1, 1, 7);
    x.gives(0, 0, 400);
    x.gives(0, 1, 100);
    x.gives(0, 3, 3);
    x.gives(1, 0, 4 * 7);
    x.go(4);
    x.gives(1, 0, 3 * 7);
    x.go(1);
    c.due(30, "a cart goes in week 5, and is there in time", x.worst(0, 0, -1, 6), 0);
    c.due(30, "it was in mind", x.count(4), 0);
    x.go(1);
    c.due(30, "a cart that is on its way", x.worst(0, 0, -1, 5), 0);
    c.due(22, "it is still on its way", x.cart(0, 2), 30);
  }

  private static void worstRefusals() {
    NoSummer x = new NoSummer();
    Check.law(x, "1=1");
    c.due(30, "land 4", x.worst(4, 0, 0, 1), -1);
    c.due(30, "land -1", x.worst(-1, 0, 0, 1), -1);
    c.due(30, "purpose 4", x.worst(0, 4, 0, 1), -1);
    c.due(30, "purpose -1", x.worst(0, -1, 0, 1), -1);
    c.due(30, "law 1", x.worst(0, 0, 1, 1), -1);
    c.due(30, "law -2", x.worst(0, 0, -2, 1), -1);
    c.due(30, "0 weeks", x.worst(0, 0, 0, 0), -1);
    c.due(30, "31 weeks", x.worst(0, 0, 0, 31), -1);
    for (int i = 0; i < 5; i++) {
      x.go(26);
    }
    c.due(30, "to 156", x.worst(0, 0, 0, 26), 0);
    c.due(30, "beyond it", x.worst(0, 0, 0, 27), -2);
    x.go(26);
    c.due(30, "beyond 156", x.worst(0, 0, 0, 1), -2);
    c.due(30, "-1 ahead of -2", x.worst(0, 0, 1, 1), -1);
  }

  private static void best() {
    NoSummer x = townAndStore();
    c.due(31, "no laws: none", x.best(0, 2, 2), -4);
    Check.law(x, "k=2");
    c.due(31, "of several the first: none", x.best(0, 2, 2), -4);
    Check.law(x, "k=3");
    Check.law(x, "1=1");
    c.due(31, "of several the first", x.best(0, 2, 2), 1);
    c.due(31, "in three weeks all are alike", x.best(0, 2, 3), -4);
    c.due(31, "another purpose", x.best(0, 1, 2), -4);
    c.due(31, "another land", x.best(2, 2, 2), -4);
    x.force(0, 2, 2);
    c.due(31, "whatever is in force", x.best(0, 2, 2), 1);
    c.due(31, "it is still in force", x.force(0, 2, -1), 2);
    NoSummer w = townAndStore();
    Check.law(w, "k=3");
    c.due(31, "law 0", w.best(0, 2, 2), 0);
    NoSummer y = townAndStore();
    for (int i = 0; i < 8; i++) {
      Check.law(y, i == 7 ? "c>100" : "1=2");
    }
    c.due(31, "law 7", y.best(0, 2, 2), 7);
    NoSummer z = townAndStore();
    for (int i = 0; i < 9; i++) {
      Check.law(z, i == 8 ? "c>100" : "1=2");
    }
    c.due(31, "law 8 isn't asked", z.best(0, 2, 2), -4);
    c.due(30, "though it is better", z.worst(0, 2, 8, 2), 0);
  }

  private static void bestRefusals() {
    NoSummer x = new NoSummer();
    c.due(31, "land 4", x.best(4, 0, 1), -1);
    c.due(31, "land -1", x.best(-1, 0, 1), -1);
    c.due(31, "purpose 4", x.best(0, 4, 1), -1);
    c.due(31, "purpose -1", x.best(0, -1, 1), -1);
    c.due(31, "0 weeks", x.best(0, 0, 0), -1);
    c.due(31, "31 weeks", x.best(0, 0, 31), -1);
    for (int i = 0; i < 5; i++) {
      x.go(26);
    }
    c.due(31, "to 156", x.best(0, 0, 26), -4);
    c.due(31, "beyond it", x.best(0, 0, 27), -2);
    x.go(26);
    c.due(31, "beyond 156", x.best(0, 0, 1), -2);
    c.due(31, "-1 ahead of -2", x.best(0, 4, 1), -1);
  }
}
