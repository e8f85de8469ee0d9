/** Promises 1 to 7: a new object, the map, weather, prices. */
public final class MapTest {
  private static final Check c = new Check();

  public static void main(String[] args) {
    newObject();
    districts();
    tenDistricts();
    roads();
    ways();
    weather();
    missingWeather();
    missingAtTheEnds();
    prices();
    c.end("MapTest");
  }

  private static void newObject() {
    NoSummer x = new NoSummer();
    for (int what = 0; what <= 10; what++) {
      c.due(1, "count(" + what + ")", x.count(what), 0);
    }
    for (int land = 0; land < 4; land++) {
      c.due(1, "sky warm", x.sky(land, 0, false), 0);
      c.due(1, "sky wet", x.sky(land, 156, true), 0);
      for (int purpose = 0; purpose < 4; purpose++) {
        c.due(1, "force none", x.force(land, purpose, -1), -4);
      }
      c.due(1, "shut", x.shut(land), 0);
    }
    c.due(1, "restore", x.restore(), -3);
    c.due(1, "weight(0)", x.weight(0), -11);
    c.due(1, "go(1)", x.go(1), 0);
    NoSummer other = new NoSummer();
    x.district(0, 0);
    c.due(1, "objects share nothing", other.count(0), 0);
  }

  private static void districts() {
    NoSummer x = new NoSummer();
    c.due(2, "district(-1, 0)", x.district(-1, 0), -1);
    c.due(2, "district(4, 0)", x.district(4, 0), -1);
    c.due(2, "district(0, -1)", x.district(0, -1), -1);
    c.due(2, "district(0, 10)", x.district(0, 10), -1);
    c.due(2, "none came", x.count(0), 0);
    for (int i = 0; i < 10; i++) {
      c.due(2, "district " + i, x.district(i % 4, i), i);
    }
    c.due(2, "no room", x.district(0, 0), -2);
    c.due(2, "-1 ahead of -2", x.district(4, 0), -1);
    c.due(2, "ten", x.count(0), 10);
  }

  private static void tenDistricts() {
    NoSummer x = Check.world(0, 1, 2, 3, 0, 1, 2, 3, 0, 1);
    c.due(3, "the last two", x.road(8, 9, 30), 0);
    c.due(3, "no eleventh", x.road(9, 10, 1), -1);
    c.due(4, "the last two", x.far(9, 8), 30);
    c.due(4, "no eleventh", x.far(10, 9), -1);
    c.due(4, "no eleventh", x.far(9, 10), -1);
    c.due(7, "the last", x.price(9), 20);
    c.due(7, "no eleventh", x.price(10), -1);
    for (int d = 0; d < 8; d++) {
      x.road(d, d + 1, 30);
    }
    c.due(4, "all roads in a row", x.far(0, 9), 270);
    c.due(2, "refused, none came", x.district(0, 0), -2);
    c.due(4, "nor did ways change", x.far(9, 0), 270);
  }

  private static void roads() {
    NoSummer x = Check.world(0, 0, 1);
    c.due(3, "first", x.road(0, 1, 7), 0);
    c.due(3, "what it was, the other way round", x.road(1, 0, 30), 7);
    c.due(3, "taken away", x.road(0, 1, 0), 30);
    c.due(3, "none again", x.road(0, 1, 1), 0);
    c.due(3, "one twice", x.road(1, 1, 5), -1);
    c.due(3, "31 leagues", x.road(0, 1, 31), -1);
    c.due(3, "-1 leagues", x.road(0, 1, -1), -1);
    c.due(3, "no such a", x.road(3, 1, 5), -1);
    c.due(3, "no such a", x.road(-1, 1, 5), -1);
    c.due(3, "no such b", x.road(0, 3, 5), -1);
    c.due(3, "no such b", x.road(0, -1, 5), -1);
    c.due(3, "one twice, that isn't there", x.road(3, 3, 5), -1);
    c.due(3, "refused changes nothing", x.road(0, 1, 2), 1);
  }

  private static void ways() {
    NoSummer x = Check.world(0, 0, 0, 0, 1);
    c.due(4, "no roads at all", x.far(0, 1), -4);
    x.road(0, 1, 10);
    x.road(1, 2, 10);
    x.road(0, 2, 25);
    x.road(2, 3, 1);
    c.due(4, "to itself", x.far(4, 4), 0);
    c.due(4, "the shorter way round", x.far(0, 2), 20);
    c.due(4, "on from there", x.far(3, 0), 21);
    c.due(4, "no way", x.far(0, 4), -4);
    c.due(4, "no such", x.far(0, 5), -1);
    c.due(4, "to itself, no such", x.far(5, 5), -1);
    c.due(4, "no such", x.far(-1, 0), -1);
    x.road(1, 2, 0);
    c.due(4, "a road less", x.far(0, 3), 26);
    x.road(2, 3, 0);
    c.due(4, "cut off", x.far(0, 3), -4);
    c.due(4, "over district 0", x.far(2, 1), 35);
  }

  private static void weather() {
    NoSummer x = new NoSummer();
    c.due(5, "nothing held", x.weather(0, 0, false), -11);
    x.district(0, 0);
    x.holder(1, 0, 1);
    x.keep(1, 1, 0);
    c.due(5, "a holder", x.weather(0, 1, false), -12);
    c.due(5, "no land", x.weather(4, 0, false), -1);
    c.due(5, "no land", x.weather(-1, 1, false), -1);
    c.due(5, "no shelf", x.weather(0, 8, false), -1);
    c.due(5, "no shelf", x.weather(0, -1, true), -1);
    x.row(0, 2, 3);
    x.put(0, 0, 70000);
    x.put(0, 2, -9);
    c.due(5, "size", x.weather(2, 0, false), 3);
    c.due(6, "as given", x.sky(2, 0, false), 70000);
    c.due(6, "wet is another row", x.sky(2, 0, true), 0);
    c.due(6, "other lands have none", x.sky(1, 0, false), 0);
    x.put(0, 0, 1);
    c.due(5, "as it was then", x.sky(2, 0, false), 70000);
    c.due(6, "below 0", x.sky(2, 2, false), -9);
    c.due(6, "behind its end", x.sky(2, 3, false), 0);
    x.row(0, 0, 0);
    c.due(5, "an empty row", x.weather(2, 0, false), 0);
    c.due(5, "in the place of the old one", x.sky(2, 0, false), 0);
    x.row(0, 1, 160);
    x.put(0, 156, 12);
    c.due(5, "a long row", x.weather(3, 0, true), 160);
    c.due(6, "the last week", x.sky(3, 156, true), 12);
    c.due(6, "week 157", Check.skyThrows(x, 3, 157, true), 1);
    c.due(6, "week -1", Check.skyThrows(x, 3, -1, true), 1);
    c.due(6, "land 4", Check.skyThrows(x, 4, 0, true), 1);
    c.due(6, "land -1", Check.skyThrows(x, -1, 0, false), 1);
    c.due(6, "a good one", Check.skyThrows(x, 0, 0, false), 0);
  }

  private static void missingWeather() {
    int[] least = {-128, -32768, Integer.MIN_VALUE};
    for (int sort = 0; sort < 3; sort++) {
      NoSummer x = new NoSummer();
      for (int land = 0; land < 4; land++) {
        x.row(0, sort, 5);
        x.put(0, 0, land == 3 ? 9 : least[sort]);
        x.put(0, 1, least[sort]);
        x.put(0, 2, land == 0 ? 4 : least[sort]);
        x.put(0, 3, least[sort] + 1);
        x.weather(land, 0, true);
      }
      c.due(6, "of the next but two", x.sky(0, 0, true), 9);
      c.due(6, "of the next", x.sky(2, 0, true), 9);
      c.due(6, "missing in all", x.sky(1, 1, true), 0);
      c.due(6, "0 behind 3", x.sky(3, 2, true), 4);
      c.due(6, "round from 1", x.sky(1, 2, true), 4);
      c.due(6, "one above the least isn't missing", x.sky(0, 3, true), least[sort] + 1);
    }
    NoSummer x = new NoSummer();
    x.row(0, 1, 2);
    x.put(0, 0, -32768);
    x.put(0, 1, -128);
    x.weather(0, 0, false);
    c.due(6, "the next land has no row", x.sky(0, 0, false), 0);
    c.due(6, "the least byte is no missing short", x.sky(0, 1, false), -128);
  }

  /** Behind its end a row has 0, which isn't missing; what is missing is looked for by weeks. */
  private static void missingAtTheEnds() {
    NoSummer x = new NoSummer();
    x.row(0, 0, 160);
    x.put(0, 4, -128);
    x.put(0, 5, -128);
    x.put(0, 156, -128);
    x.weather(0, 0, false);
    x.weather(3, 0, true);
    x.row(0, 2, 5);
    x.put(0, 4, 44);
    x.weather(1, 0, false);
    x.row(0, 1, 157);
    x.put(0, 5, 55);
    x.put(0, 156, 66);
    x.weather(2, 0, false);
    x.weather(0, 0, true);
    c.due(6, "its last element, of another sort", x.sky(0, 4, false), 44);
    c.due(6, "behind the end of the next: 0, no further", x.sky(0, 5, false), 0);
    c.due(6, "the last week", x.sky(0, 156, false), 0);
    c.due(6, "from 3 on to 0", x.sky(3, 5, true), 55);
    c.due(6, "from 3 on to 0, the last week", x.sky(3, 156, true), 66);
    c.due(6, "another week of the one on to it", x.sky(3, 4, true), 0);
    c.due(6, "warm isn't wet", x.sky(3, 5, false), 0);
  }

  private static void prices() {
    NoSummer x = Check.world(0);
    c.due(7, "at first", x.price(0), 20);
    c.due(7, "no such", x.price(1), -1);
    c.due(7, "no such", x.price(-1), -1);
    x.holder(1, 0, 10);
    x.go(1);
    c.due(7, "asked for", x.price(0), 23);
  }
}
