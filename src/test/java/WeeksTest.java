/** Promises 18 to 20: how a week goes by, what is recorded, what is read. */
public final class WeeksTest {
  private static final Check c = new Check();

  public static void main(String[] args) {
    goRefusals();
    shutLands();
    shutInTheWeek();
    shutByPrice();
    letInTheWeek();
    sowing();
    sowingAheadOfEating();
    growth();
    growthOfMissingWeather();
    harvestBounds();
    oatsAheadOfHorses();
    ships();
    eating();
    buying();
    buyingInOrder();
    buyingOfEach();
    whoMustSell();
    hungerByNeed();
    noNeedNoHunger();
    horses();
    illness();
    illnessAtTheEdges();
    walkers();
    walkersEatFirst();
    walkersAtBorders();
    pricesByOffer();
    pricesWithShips();
    whoAsks();
    offersOfTheWeek();
    pricesBehindTheOtherSteps();
    priceBounds();
    records();
    districtsThen();
    readings();
    c.end("WeeksTest");
  }

  private static void goRefusals() {
    NoSummer x = Check.world(0);
    x.holder(1, 0, 5);
    c.due(18, "go(0)", x.go(0), -1);
    c.due(18, "go(27)", x.go(27), -1);
    c.due(18, "go(-1)", x.go(-1), -1);
    c.due(18, "the most", x.go(Integer.MAX_VALUE), -1);
    c.due(18, "nothing went by", x.count(3), 0);
    for (int i = 0; i < 5; i++) {
      c.due(18, "go(26)", x.go(26), 5);
    }
    c.due(18, "go(25)", x.go(25), 5);
    c.due(18, "beyond 156", x.go(2), -2);
    c.due(18, "-1 ahead of -2", x.go(27), -1);
    c.due(18, "to 156", x.go(1), 5);
    c.due(18, "beyond 156", x.go(1), -2);
    c.due(18, "now", x.count(3), 156);
    c.due(19, "the last week", x.record(155, 10), 5);
    c.due(19, "week 156 didn't go by", x.record(156, 10), -3);
    c.due(6, "sky now", x.sky(0, 156, false), 0);
  }

  private static void shutLands() {
    NoSummer x = new NoSummer();
    Check.law(x, "w=2");
    Check.law(x, "r>0");
    Check.law(x, "r>1|w=3");
    x.force(1, 0, 0);
    x.force(0, 0, 1);
    x.force(3, 0, 1);
    x.force(2, 0, 2);
    x.go(6);
    c.due(18, "week 1", x.record(1, 12), 0);
    c.due(18, "week 2", x.record(2, 12), 2);
    c.due(18, "week 3", x.record(3, 12), 1 + 4 + 8);
    c.due(18, "week 4", x.record(4, 12), 1 + 4 + 8);
    x.force(0, 0, -1);
    x.force(3, 0, -1);
    x.go(2);
    c.due(18, "week 6", x.record(6, 12), 4);
    c.due(18, "week 7", x.record(7, 12), 0);
  }

  private static void shutInTheWeek() {
    NoSummer x = Check.world(0);
    x.holder(1, 0, 10);
    x.holder(3, 0, 0);
    x.gives(0, 2, 100);
    x.gives(1, 0, 200);
    Check.law(x, "w>0");
    Check.law(x, "r=1");
    x.force(0, 0, 0);
    x.force(0, 2, 1);
    c.due(18, "r is 0 yet", x.go(1), 10);
    c.due(18, "the price goes down", x.price(0), 19);
    c.due(18, "r is of this week", x.go(1), 0);
    c.due(18, "ten at 19", x.about(0, 4), 81);
    c.due(18, "to the store", x.about(1, 4), 19);
  }

  /** A law of shutting knows no holder, but the price of the land's first district. */
  private static void shutByPrice() {
    NoSummer x = Check.world(2, 1, 1);
    x.holder(1, 1, 7);
    x.holder(1, 0, 7);
    x.gives(0, 0, 500);
    x.force(1, 0, Check.law(x, "p>19&c+o+g+m+h+k=0&b=1"));
    x.force(2, 0, Check.law(x, "p>20&c+o+g+m+h+k=0&b=2"));
    x.force(3, 0, Check.law(x, "p=0&b=3"));
    x.go(2);
    c.due(18, "19 falls behind, 23 comes", x.record(0, 12), 2 + 8);
    c.due(18, "in the week after", x.record(1, 12), 4 + 8);
  }

  private static void letInTheWeek() {
    NoSummer x = Check.world(0, 1);
    x.road(0, 1, 3);
    x.holder(5, 0, 4);
    x.goal(0, 1, 0);
    x.force(3, 0, Check.law(x, "w=1"));
    x.force(1, 3, Check.law(x, "r=1&p>22&w=1&k=5"));
    x.go(1);
    c.due(18, "no land is shut yet", x.about(0, 1), 0);
    x.go(1);
    c.due(18, "r is of this week, p of where it is", x.about(0, 1), 1);
  }

  private static void sowingAheadOfEating() {
    NoSummer x = Check.world(0);
    x.holder(0, 0, 10);
    x.field(0, 20);
    x.gives(0, 0, 150);
    c.due(18, "ten weeks of 15", x.go(10), 0);
    c.due(18, "none left", x.about(0, 2), 0);
    x.gives(0, 0, 25);
    c.due(18, "20 sown, 5 eaten, a lack of 10 by 2", x.go(1), 5);
    c.due(18, "sown", x.about(0, 11), 20);
    c.due(18, "eaten", x.about(0, 2), 0);
  }

  private static void sowing() {
    NoSummer x = Check.world(0);
    for (int i = 0; i < 3; i++) {
      x.holder(0, 0, 0);
    }
    x.field(0, 30);
    x.field(1, 30);
    x.gives(0, 0, 100);
    x.gives(1, 0, 20);
    x.gives(2, 0, 20);
    x.go(10);
    c.due(18, "not before week 10", x.about(0, 11), 0);
    x.go(1);
    c.due(18, "field at most", x.about(0, 11), 30);
    c.due(18, "corn is less", x.about(0, 2), 70);
    c.due(18, "corn at most", x.about(1, 11), 20);
    c.due(18, "no corn left", x.about(1, 2), 0);
    c.due(18, "no field", x.about(2, 11), 0);
    c.due(18, "what is sown counts", x.count(5), 70 + 30 + 20 + 20);
    c.due(18, "no growth yet", x.about(0, 12), 0);
    x.go(2);
    c.due(18, "off by five each week from 12 on", x.about(0, 12), -5);
    c.due(18, "nothing sown, no growth", x.about(2, 12), 0);
    x.go(23);
    c.due(18, "to week 34", x.about(0, 12), -5 * 23);
    c.due(18, "reaped nothing", x.about(0, 2), 70);
    c.due(18, "none sown any more", x.about(0, 11), 0);
    x.go(26);
    c.due(18, "growth 0 in week 62", x.about(0, 12), -115);
    x.go(1);
    c.due(18, "sown again", x.about(0, 11), 30);
    c.due(18, "growth 0 again", x.about(0, 12), 0);
  }

  /** A farm of field 20 that has sown 20; its growth in one week and its harvest. */
  private static void grows(int height, int warm, int wet, int weekly, int harvest) {
    NoSummer x = new NoSummer();
    x.district(2, height);
    x.holder(0, 0, 0);
    x.field(0, 20);
    x.gives(0, 0, 20);
    Check.steadyWeather(x, 2, warm, wet);
    x.go(13);
    c.due(18, "growth at " + warm + ", " + wet, x.about(0, 12), weekly);
    x.go(17);
    c.due(18, "no oats ahead of week 30", x.about(0, 3), 0);
    x.go(1);
    c.due(18, "oats of week 30", x.about(0, 3), 5);
    x.go(4);
    c.due(18, "growth of all weeks", x.about(0, 12), 23 * weekly);
    c.due(18, "no harvest ahead of week 35", x.about(0, 11), 20);
    c.due(18, "no oats but then", x.about(0, 3), 5);
    x.go(1);
    c.due(18, "harvest at " + warm + ", " + wet, x.about(0, 2), harvest);
    c.due(18, "growth is still told", x.about(0, 12), 23 * weekly);
  }

  private static void growth() {
    grows(0, 6, 5, 6, 138);
    grows(2, 6, 5, 4, 92);
    grows(0, 9, 5, 9, 207);
    grows(0, 10, 5, 9, 207);
    grows(9, 20, 5, 9, 207);
    grows(0, 5, 3, 3, 69);
    grows(0, 5, 7, 3, 69);
    grows(7, 6, 5, 0, 0);
    grows(0, -40, 5, 0, 0);
    grows(0, 9, 14, 0, 0);
    grows(0, 9, 15, 0, 0);
    grows(0, 0, -4, -9, 0);
    grows(0, 0, -5, -9, 0);
    grows(0, Integer.MAX_VALUE, Integer.MAX_VALUE, 0, 0);
    grows(9, Integer.MIN_VALUE + 1, Integer.MIN_VALUE + 1, -9, 0);
  }

  private static void growthOfMissingWeather() {
    NoSummer x = new NoSummer();
    x.district(1, 2);
    x.holder(0, 0, 0);
    x.field(0, 20);
    x.gives(0, 0, 20);
    x.row(0, 0, 15);
    x.put(0, 12, -128);
    x.put(0, 13, -128);
    x.put(0, 14, 8);
    x.weather(1, 0, false);
    x.row(0, 1, 15);
    x.put(0, 12, 9);
    x.put(0, 13, -32768);
    x.weather(2, 0, false);
    x.row(0, 2, 15);
    x.put(0, 13, 4);
    x.weather(3, 0, false);
    x.row(0, 0, 15);
    x.put(0, 12, 5);
    x.put(0, 13, -128);
    x.put(0, 14, 7);
    x.weather(1, 0, true);
    x.go(13);
    c.due(18, "9 of land 2, less 2", x.about(0, 12), 7);
    x.go(1);
    c.due(18, "4 of land 3, less 2, less 5 off 0", x.about(0, 12), 7 + 2 - 5);
    x.go(1);
    c.due(18, "8 less 2, less 2 off 5", x.about(0, 12), 4 + 6 - 2);
    x.go(1);
    c.due(18, "behind the ends: 0, less 5", x.about(0, 12), 8 - 5);
  }

  private static void oatsAheadOfHorses() {
    NoSummer x = Check.world(0);
    x.holder(0, 0, 0);
    x.field(0, 23);
    x.go(26);
    x.go(4);
    x.gives(0, 3, 4);
    x.go(1);
    c.due(18, "oats grow with nothing sown, four are eaten", x.about(0, 3), 1);
    c.due(18, "so no horse dies", x.about(0, 5), 4);
    c.due(18, "nothing was sown", x.about(0, 11), 0);
    for (int i = 0; i < 10; i++) {
      x.gives(0, 1, 9998);
    }
    x.go(26);
    x.gives(0, 1, 99999 - x.about(0, 3));
    for (int i = 0; i < 25; i++) {
      x.go(1);
      x.gives(0, 1, 4);
    }
    c.due(18, "ahead of week 82", x.count(3), 30 + 52);
    c.due(18, "full", x.about(0, 3), 99999);
    x.go(1);
    c.due(18, "what would be above is lost, then four are eaten", x.about(0, 3), 99995);
  }

  private static void harvestBounds() {
    NoSummer x = Check.world(0);
    x.holder(0, 0, 0);
    x.field(0, 999);
    for (int i = 0; i < 10; i++) {
      x.gives(0, 0, 9999);
    }
    x.gives(0, 0, 9);
    Check.steadyWeather(x, 0, 9, 5);
    x.go(26);
    x.go(10);
    c.due(18, "what would be above is lost", x.about(0, 2), 99999);
    c.due(18, "oats by four, cut", x.about(0, 3), 249);
    NoSummer z = Check.world(0);
    z.holder(0, 0, 0);
    z.field(0, 1);
    z.gives(0, 0, 1);
    z.go(14);
    c.due(18, "one sown grows, too", z.about(0, 12), -10);
    NoSummer y = Check.world(0);
    y.holder(0, 0, 0);
    y.field(0, 3);
    y.gives(0, 0, 3);
    Check.steadyWeather(y, 0, 3, 5);
    y.go(26);
    y.go(10);
    c.due(18, "3 by 69 by 20, cut", y.about(0, 2), 10);
    c.due(18, "no oats of 3", y.about(0, 3), 0);
  }

  private static void ships() {
    NoSummer x = Check.world(0, 1);
    x.holder(4, 0, 0);
    x.holder(4, 0, 0);
    x.goal(0, 1, 2);
    x.goal(1, 1, 0);
    x.go(1);
    c.due(18, "one week less", x.about(0, 13), 1);
    c.due(18, "not there yet", x.about(0, 1), 0);
    x.go(1);
    c.due(18, "none left", x.about(0, 13), 0);
    c.due(18, "there", x.about(0, 1), 1);
    c.due(18, "its goal is still told", x.about(0, 14), 1);
    x.go(1);
    c.due(18, "no further", x.about(0, 13), 0);
    c.due(18, "a ship that lies stays", x.about(1, 1), 0);
  }

  private static void eating() {
    NoSummer x = Check.world(0, 0, 0, 0, 0, 0);
    int[] left = {35, 40, 40, 50, 45, 45};
    for (int kind = 0; kind < 6; kind++) {
      x.holder(kind, kind, 10);
      x.gives(kind, 0, 50);
    }
    c.due(18, "all have some", x.go(1), 0);
    for (int kind = 0; kind < 6; kind++) {
      c.due(18, "corn left of kind " + kind, x.about(kind, 2), left[kind]);
    }
    NoSummer y = Check.world(0);
    y.holder(1, 0, 10);
    y.gives(0, 0, 7);
    c.due(18, "some lack", y.go(1), 3);
    c.due(18, "none left", y.about(0, 2), 0);
  }

  private static void buying() {
    NoSummer x = Check.world(0, 0);
    x.holder(1, 0, 10);
    x.holder(2, 0, 0);
    x.gives(0, 2, 5);
    x.gives(1, 0, 100);
    c.due(18, "two for its five coins", x.go(1), 8);
    c.due(18, "one coin left", x.about(0, 4), 1);
    c.due(18, "four come in", x.about(1, 4), 4);
    c.due(18, "two went", x.about(1, 2), 98);
    c.due(18, "nothing is kept", x.about(0, 2), 0);
    x.gives(0, 2, 5);
    c.due(18, "at 19: three cost six", x.go(1), 7);
    c.due(18, "rounded up", x.about(0, 4), 0);
    x.gives(0, 0, 9);
    x.gives(0, 2, 2);
    c.due(18, "it buys the one that it lacks", x.go(1), 0);
    c.due(18, "for 1.9, rounded up", x.about(0, 4), 0);
    NoSummer w = Check.world(0);
    w.holder(1, 0, 30);
    w.holder(2, 0, 0);
    w.gives(0, 2, 20);
    w.gives(1, 0, 100);
    c.due(18, "ten for its twenty coins", w.go(1), 20);
    c.due(18, "no coin left", w.about(0, 4), 0);
    NoSummer y = Check.world(0, 0);
    y.holder(5, 0, 21);
    y.holder(2, 1, 0);
    y.holder(4, 0, 0);
    y.gives(0, 2, 50);
    y.gives(1, 0, 100);
    y.gives(2, 0, 6);
    y.goal(2, 1, 1);
    c.due(18, "the ship is gone, the dealer elsewhere", y.go(1), 10);
    y.goal(2, 0, 1);
    c.due(18, "a walker buys of a ship that lies there", y.go(1), 4);
    c.due(18, "at 23, rounded up", y.about(0, 4), 50 - 14);
    NoSummer z = Check.world(0);
    z.holder(2, 0, 10);
    z.holder(0, 0, 10);
    z.gives(0, 2, 100);
    z.gives(1, 0, 500);
    c.due(18, "dealers don't buy", z.go(1), 10);
    for (int i = 0; i < 10; i++) {
      z.gives(1, 2, 9999);
    }
    z.gives(1, 2, 9);
    z.holder(1, 0, 10);
    z.gives(2, 2, 100);
    z.go(1);
    c.due(18, "coin above 99999 is lost", z.about(1, 4), 99999);
    c.due(18, "and yet paid", z.about(2, 4), 81);
  }

  private static void buyingInOrder() {
    NoSummer x = Check.world(0);
    x.holder(1, 0, 30);
    x.holder(0, 0, 2);
    x.holder(2, 0, 4);
    x.holder(1, 0, 10);
    x.gives(0, 2, 500);
    x.gives(3, 2, 500);
    x.field(1, 1);
    x.gives(1, 0, 30);
    x.gives(2, 0, 25);
    // The farm keeps 20 and sells 10; the dealer sells 20 of 25, then has 5,
    // eats 4, and has 1 for the other town.
    c.due(18, "hungry", x.go(1), 9);
    c.due(18, "of the farm first", x.about(1, 4), 20);
    c.due(18, "what it keeps is its own", x.about(1, 2), 17);
    c.due(18, "then of the dealer", x.about(2, 4), 42);
    c.due(18, "the first town is fed", x.about(0, 7), 0);
    c.due(18, "the dealer is fed", x.about(2, 7), 0);
    c.due(18, "the last town lacks nine", x.about(3, 7), 9);
    c.due(18, "corn in all", x.count(5), 17);
  }

  /** A town of ten buys of a dealer, a farm, a ship, each of which has a part of its need. */
  private static void buyingOfEach() {
    NoSummer x = Check.world(0);
    x.holder(2, 0, 0);
    x.holder(4, 0, 0);
    x.holder(0, 0, 0);
    x.holder(1, 0, 10);
    x.gives(0, 0, 3);
    x.gives(1, 0, 4);
    x.gives(2, 0, 9);
    x.gives(3, 2, 100);
    c.due(18, "3, 4 and 3", x.go(1), 0);
    c.due(18, "the dealer first, though a farm is of a lower kind", x.about(0, 4), 6);
    c.due(18, "then the ship", x.about(1, 4), 8);
    c.due(18, "then the farm what lacks still", x.about(2, 4), 6);
    c.due(18, "which keeps the rest", x.about(2, 2), 6);
    c.due(18, "paid", x.about(3, 4), 80);
    NoSummer y = Check.world(0);
    y.holder(1, 0, 10);
    y.holder(2, 0, 0);
    y.holder(2, 0, 0);
    y.gives(0, 2, 3);
    y.gives(1, 0, 1);
    y.gives(2, 0, 50);
    c.due(18, "one of the first for 2, then none for 1", y.go(1), 9);
    c.due(18, "one coin is left", y.about(0, 4), 1);
    c.due(18, "two came in", y.about(1, 4), 2);
    c.due(18, "none to the second", y.about(2, 4), 0);
  }

  /** Hungry of a town of ten when only a seller of a kind has corn, under a law or none. */
  private static int hungryBeside(int kind, String law, int land) {
    NoSummer x = Check.world(0);
    x.holder(1, 0, 10);
    x.holder(kind, 0, 0);
    x.gives(0, 2, 100);
    x.gives(1, 0, 105);
    if (law != null) {
      x.force(land, 2, Check.law(x, law));
    }
    return x.go(1);
  }

  private static void whoMustSell() {
    c.due(18, "a farm sells", hungryBeside(0, null, 0), 0);
    c.due(18, "a town doesn't", hungryBeside(1, null, 0), 10);
    c.due(18, "a dealer sells", hungryBeside(2, null, 0), 0);
    c.due(18, "a store doesn't", hungryBeside(3, null, 0), 10);
    c.due(18, "a ship sells", hungryBeside(4, null, 0), 0);
    c.due(18, "a walker doesn't", hungryBeside(5, null, 0), 10);
    c.due(18, "a store above 100 by law", hungryBeside(3, "k=3", 0), 5);
    c.due(18, "a dealer not by that law", hungryBeside(2, "k=3", 0), 10);
    c.due(18, "a ship not by that law", hungryBeside(4, "k=3", 0), 10);
    c.due(18, "a farm always", hungryBeside(0, "1=2", 0), 0);
    c.due(18, "another land's law", hungryBeside(2, "1=2", 1), 0);
    c.due(18, "by its own corn", hungryBeside(2, "c=105&m=0&b=0", 0), 0);
  }

  private static void hungerByNeed() {
    NoSummer x = Check.world(0, 0, 0);
    x.holder(0, 0, 3);
    x.holder(5, 1, 9);
    x.holder(0, 2, 1);
    x.holder(4, 2, 1);
    x.go(1);
    c.due(18, "a farm's lack of 4 by 2", x.about(0, 7), 2);
    c.due(18, "a walker's lack of 4 by 1", x.about(1, 7), 4);
    c.due(18, "a farm of one", x.about(2, 7), 1);
    c.due(18, "a ship of one needs none", x.about(3, 7), 0);
    x.gives(0, 0, 1);
    x.go(1);
    c.due(18, "a lack of 3 by 2, rounded up", x.about(0, 7), 2);
    x.gives(0, 0, 2);
    c.due(18, "a lack of 2 by 2", x.go(1), 1 + 4 + 1);
    x.gives(0, 0, 4);
    x.go(1);
    c.due(18, "no lack", x.about(0, 7), 0);
  }

  private static void noNeedNoHunger() {
    NoSummer x = Check.world(0);
    x.holder(3, 0, 999);
    for (int kind = 0; kind < 6; kind++) {
      x.holder(kind, 0, 0);
    }
    x.holder(5, 0, 1);
    c.due(18, "a store has no need, nor has who has no mouths", x.go(1), 0);
    for (int i = 0; i < 8; i++) {
      c.due(18, "not hungry: " + i, x.about(i, 7), 0);
      c.due(18, "not ill: " + i, x.about(i, 8), 0);
    }
  }

  private static void horses() {
    NoSummer x = Check.world(0);
    int[] oats = {5, 2, 0, 3, 0};
    int[] had = {3, 5, 1, 7, 2};
    int[] have = {3, 4, 1, 5, 1};
    for (int i = 0; i < 5; i++) {
      x.holder(i, 0, 0);
      x.gives(i, 3, had[i]);
      if (oats[i] > 0) {
        x.gives(i, 1, oats[i]);
      }
    }
    x.go(1);
    for (int i = 0; i < 5; i++) {
      c.due(18, "horses of " + i, x.about(i, 5), have[i]);
      c.due(18, "oats of " + i, x.about(i, 3), Math.max(0, oats[i] - had[i]));
    }
  }

  private static void illness() {
    NoSummer x = Check.world(0);
    x.holder(1, 0, 80);
    int[] ill = {18, 33, 45};
    int[] mouths = {78, 74, 68};
    int[] hungry = {80, 78, 74};
    for (int week = 0; week < 3; week++) {
      c.due(18, "all hungry", x.go(1), hungry[week]);
      c.due(18, "hungry", x.about(0, 7), hungry[week]);
      c.due(18, "ill", x.about(0, 8), ill[week]);
      c.due(18, "mouths", x.about(0, 6), mouths[week]);
      c.due(18, "died", x.about(0, 15), 80 - mouths[week]);
      c.due(19, "dead so far", x.record(week, 11), 80 - mouths[week]);
    }
    x.gives(0, 0, 500);
    x.go(1);
    c.due(18, "halved, then some die", x.about(0, 8), 20);
    c.due(18, "mouths", x.about(0, 6), 66);
    x.gives(0, 0, 500);
    x.go(1);
    c.due(18, "halved again", x.about(0, 8), 9);
    NoSummer y = Check.world(0);
    y.holder(1, 0, 7);
    y.go(26);
    c.due(18, "ill are mouths at most", y.about(0, 8), 7);
    c.due(18, "seven ill, none dies", y.about(0, 6), 7);
    y.gives(0, 0, 6);
    c.due(18, "one is hungry", y.go(1), 1);
    c.due(18, "one more by four is none, and none is well again", y.about(0, 8), 7);
    y.gives(0, 0, 7);
    y.go(1);
    c.due(18, "seven halved, cut", y.about(0, 8), 3);
  }

  /** Ill of a town without corn after a week; its mouths are these less who died. */
  private static void illAfter(int mouths, int ill, int died) {
    NoSummer x = Check.world(0);
    x.holder(1, 0, mouths);
    c.due(18, "all hungry of " + mouths, x.go(1), mouths);
    c.due(18, "ill of " + mouths, x.about(0, 8), ill);
    c.due(18, "died of " + mouths, x.about(0, 15), died);
    c.due(18, "mouths of " + mouths, x.about(0, 6), mouths - died);
    c.due(18, "hungry as they were of " + mouths, x.about(0, 7), mouths);
    c.due(34, "died of " + mouths, x.count(10), died);
  }

  private static void illnessAtTheEdges() {
    illAfter(3, 0, 0);
    illAfter(4, 1, 0);
    illAfter(7, 1, 0);
    illAfter(8, 2, 0);
    illAfter(31, 7, 0);
    illAfter(32, 7, 1);
    illAfter(63, 14, 1);
    illAfter(64, 14, 2);
    illAfter(999, 218, 31);
    NoSummer x = Check.world(0);
    x.holder(1, 0, 8);
    x.go(3);
    c.due(18, "2 more a week", x.about(0, 8), 6);
    c.due(18, "8 of 8 are ill, one dies", x.go(1), 8);
    c.due(18, "seven ill", x.about(0, 8), 7);
    c.due(18, "of seven", x.about(0, 6), 7);
    x.go(1);
    c.due(18, "7 and 1: mouths at most", x.about(0, 8), 7);
    c.due(18, "so none dies", x.about(0, 6), 7);
    x.gives(0, 0, 70);
    x.go(1);
    c.due(18, "halved, cut", x.about(0, 8), 3);
    x.go(1);
    c.due(18, "halved, cut", x.about(0, 8), 1);
    x.go(1);
    c.due(18, "none", x.about(0, 8), 0);
  }

  /** Walkers buy where they are, then go on. */
  private static void walkersEatFirst() {
    NoSummer x = Check.world(0, 0);
    x.road(0, 1, 30);
    x.holder(5, 0, 20);
    x.holder(2, 0, 0);
    x.gives(0, 2, 100);
    x.gives(1, 0, 100);
    x.goal(0, 1, 0);
    c.due(18, "fed where it was", x.go(1), 0);
    c.due(18, "on by 30 leagues", x.about(0, 1), 1);
    c.due(18, "paid", x.about(0, 4), 80);
    c.due(18, "hungry where it is", x.go(1), 10);
  }

  private static void walkers() {
    NoSummer x = Check.world(0, 0, 0, 0, 0);
    x.road(0, 1, 20);
    x.road(0, 2, 5);
    x.road(2, 1, 15);
    x.road(1, 3, 1);
    x.holder(5, 0, 0);
    x.holder(5, 4, 0);
    x.holder(5, 0, 0);
    x.goal(0, 3, 0);
    x.goal(1, 3, 0);
    x.go(1);
    c.due(18, "of two ways by the first district", x.about(0, 1), 1);
    c.due(18, "no way", x.about(1, 1), 4);
    c.due(18, "no aim", x.about(2, 1), 0);
    x.go(1);
    c.due(18, "a road a week", x.about(0, 1), 3);
    x.go(1);
    c.due(18, "it stays", x.about(0, 1), 3);
    x.goal(0, 0, 0);
    x.go(1);
    x.road(2, 1, 14);
    x.go(1);
    c.due(18, "the shorter way now", x.about(0, 1), 2);
    x.go(1);
    c.due(18, "to district 0", x.about(0, 1), 0);
  }

  private static void walkersAtBorders() {
    NoSummer x = Check.world(0, 1, 1, 2);
    x.road(0, 1, 3);
    x.road(1, 2, 3);
    x.road(0, 3, 9);
    x.road(3, 2, 9);
    x.holder(5, 0, 4);
    x.goal(0, 2, 0);
    Check.law(x, "1=2");
    Check.law(x, "b=1&k=5&m=4&r=0");
    x.force(1, 3, 0);
    x.force(0, 3, 0);
    x.go(1);
    c.due(18, "not let in, and no other way", x.about(0, 1), 0);
    x.force(1, 3, 1);
    x.go(1);
    c.due(18, "let in by the law of that land", x.about(0, 1), 1);
    x.force(1, 3, 0);
    x.go(1);
    c.due(18, "on in the same land, whatever its law", x.about(0, 1), 2);
    x.force(2, 3, 0);
    x.goal(0, 3, 0);
    x.go(2);
    c.due(18, "not let in over the shorter way, so it stays", x.about(0, 1), 2);
    x.force(0, 3, -1);
    x.force(2, 3, -1);
    x.go(2);
    c.due(18, "without laws it may", x.about(0, 1), 3);
  }

  /** The price after a week with a town of ten and a dealer with some corn. */
  private static int priceBeside(int corn) {
    NoSummer x = Check.world(0);
    x.holder(1, 0, 10);
    x.holder(2, 0, 0);
    if (corn > 0) {
      x.gives(1, 0, corn);
    }
    x.go(1);
    return x.price(0);
  }

  private static void pricesByOffer() {
    c.due(18, "nothing offered", priceBeside(0), 23);
    c.due(18, "below twice", priceBeside(19), 23);
    c.due(18, "twice", priceBeside(20), 20);
    c.due(18, "eight times", priceBeside(80), 20);
    c.due(18, "above eight times", priceBeside(81), 19);
    NoSummer x = Check.world(0, 0);
    x.holder(0, 0, 0);
    x.field(0, 10);
    x.gives(0, 0, 80);
    c.due(18, "nothing above what a farm keeps", x.go(1), 0);
    c.due(18, "no offer, nothing asked", x.price(0), 20);
    x.gives(0, 0, 1);
    x.go(1);
    c.due(18, "one above", x.price(0), 19);
    x.holder(5, 1, 2);
    x.holder(3, 1, 99);
    x.gives(2, 0, 101);
    x.go(1);
    c.due(18, "a walker asks, a store offers one", x.price(1), 23);
    x.gives(2, 0, 1);
    x.go(1);
    c.due(18, "two offered, one asked", x.price(1), 23);
    x.holder(1, 1, 0);
    x.gives(3, 0, 7);
    x.go(1);
    c.due(18, "what a town has is offered too", x.price(1), 22);
  }

  private static void pricesWithShips() {
    NoSummer x = Check.world(0, 0);
    x.holder(4, 0, 0);
    x.gives(0, 0, 50);
    x.goal(0, 1, 2);
    x.go(1);
    c.due(18, "corn at sea isn't offered", x.price(0), 20);
    x.go(1);
    c.due(18, "where it lies it is", x.price(1), 19);
    c.due(18, "where it lay it isn't", x.price(0), 20);
  }

  private static void whoAsks() {
    for (int kind = 0; kind < 6; kind++) {
      NoSummer x = Check.world(0);
      x.holder(kind, 0, 10);
      x.go(1);
      c.due(18, "asked by kind " + kind, x.price(0), kind == 1 || kind == 5 ? 23 : 20);
    }
  }

  private static void offersOfTheWeek() {
    NoSummer x = Check.world(0);
    x.holder(1, 0, 10);
    x.holder(2, 0, 20);
    x.gives(1, 0, 40);
    x.go(1);
    c.due(18, "20 left is twice 10", x.price(0), 20);
    x.go(1);
    c.due(18, "none left, what was offered ahead doesn't count", x.price(0), 23);
    NoSummer y = Check.world(0, 0);
    y.holder(4, 0, 0);
    y.holder(2, 0, 0);
    y.holder(1, 1, 1);
    y.goal(0, 1, 9);
    y.gives(1, 0, 1);
    y.go(1);
    c.due(18, "one offered, behind a ship at sea", y.price(0), 19);
    c.due(18, "one asked, behind both", y.price(1), 23);
  }

  private static void pricesBehindTheOtherSteps() {
    NoSummer x = Check.world(0, 0);
    x.road(0, 1, 5);
    x.holder(5, 0, 2);
    x.goal(0, 1, 0);
    x.go(1);
    c.due(18, "a walker asks where it went", x.price(1), 23);
    c.due(18, "not where it was", x.price(0), 20);
    NoSummer y = Check.world(0);
    y.holder(1, 0, 80);
    y.holder(2, 0, 0);
    y.gives(1, 0, 156);
    y.go(1);
    c.due(18, "156 is twice what the 78 left ask", y.price(0), 20);
    c.due(18, "two died", y.about(0, 15), 2);
  }

  private static void priceBounds() {
    NoSummer x = Check.world(0);
    x.holder(1, 0, 7);
    x.go(26);
    x.go(20);
    c.due(18, "999 at most", x.price(0), 999);
    x.holder(2, 0, 0);
    x.gives(1, 0, 9999);
    x.go(1);
    c.due(18, "a twentieth less", x.price(0), 950);
    for (int i = 0; i < 4; i++) {
      x.go(26);
    }
    c.due(18, "a twentieth of 19 is none", x.price(0), 19);
  }

  private static void records() {
    NoSummer x = Check.world(0, 1);
    x.holder(1, 1, 80);
    x.force(3, 0, Check.law(x, "w=1"));
    c.due(19, "nothing went by", x.record(0, 10), -3);
    x.go(2);
    x.district(2, 0);
    c.due(19, "price", x.record(0, 0), 20);
    c.due(19, "price", x.record(1, 1), 26);
    c.due(19, "hungry", x.record(0, 10), 80);
    c.due(19, "hungry", x.record(1, 10), 78);
    c.due(19, "dead", x.record(0, 11), 2);
    c.due(19, "dead so far", x.record(1, 11), 6);
    c.due(19, "shut", x.record(0, 12), 0);
    c.due(19, "shut", x.record(1, 12), 8);
    c.due(19, "no such district then", x.record(1, 2), -1);
    c.due(19, "it didn't go by", x.record(2, 2), -3);
    c.due(19, "no such district, -1 ahead of -3", x.record(2, 3), -1);
    c.due(19, "what 13", x.record(0, 13), -1);
    c.due(19, "what -1", x.record(0, -1), -1);
    c.due(19, "week -1", x.record(-1, 10), -1);
    c.due(19, "week 157", x.record(157, 10), -1);
    c.due(19, "week 156", x.record(156, 10), -3);
    x.go(1);
    c.due(19, "it was there then", x.record(2, 2), 20);
  }

  /** Two districts come later: what is recorded ahead of them knows neither. */
  private static void districtsThen() {
    NoSummer x = Check.world(0);
    x.holder(1, 0, 7);
    x.go(2);
    x.district(1, 0);
    x.district(2, 0);
    x.road(0, 1, 9);
    x.road(0, 2, 9);
    c.due(19, "the first there was", x.record(1, 0), 26);
    c.due(19, "the next came later", x.record(1, 1), -1);
    c.due(19, "so did the one behind it", x.record(1, 2), -1);
    c.due(19, "in the first week, too", x.record(0, 2), -1);
    c.due(19, "this week didn't go by", x.record(2, 1), -3);
    c.due(20, "not there then", x.read(0, 1), 20);
    c.due(20, "nor was the one behind it", x.read(0, 2), 20);
    x.holder(1, 2, 7);
    x.go(1);
    c.due(19, "there then", x.record(2, 2), 23);
    c.due(20, "there then", x.read(0, 2), 23);
    c.due(20, "as it was", x.read(0, 1), 20);
    c.due(19, "still not there then", x.record(1, 2), -1);
  }

  private static void readings() {
    NoSummer x = Check.world(0, 0, 0, 0);
    x.road(0, 1, 9);
    x.road(1, 2, 11);
    x.holder(1, 0, 7);
    c.due(20, "no week yet", x.read(1, 0), 20);
    x.go(1);
    c.due(20, "9 leagues: the last week", x.read(1, 0), 23);
    c.due(20, "in itself", x.read(0, 0), 23);
    c.due(20, "20 leagues: below week 0", x.read(2, 0), 20);
    x.go(3);
    c.due(20, "week 3", x.read(1, 0), 32);
    c.due(20, "week 1", x.read(2, 0), 26);
    c.due(20, "no way", x.read(3, 0), -3);
    c.due(20, "no such", x.read(4, 0), -1);
    c.due(20, "no such", x.read(-1, 0), -1);
    c.due(20, "no such", x.read(0, 4), -1);
    c.due(20, "no such", x.read(0, -1), -1);
    x.holder(1, 3, 7);
    x.district(0, 0);
    x.road(4, 0, 10);
    x.holder(1, 4, 7);
    c.due(20, "it wasn't there then", x.read(0, 4), 20);
    x.go(1);
    c.due(20, "nor a week ago", x.read(0, 4), 20);
    x.go(1);
    c.due(20, "as of its first week", x.read(0, 4), 23);
  }
}
