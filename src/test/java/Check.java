/** What the tests share: it counts wrong answers, and puts texts and weather on shelves. */
final class Check {
  private int wrong = 0;
  private int asked = 0;

  void due(int promise, String call, long got, long want) {
    asked++;
    if (got != want) {
      wrong++;
      System.out.println("promise " + promise + ": " + call + " answered " + got + ", due is " + want);
    }
  }

  void end(String name) {
    System.out.println(name + ": " + asked + " answers, " + wrong + " wrong");
    if (wrong != 0) {
      System.exit(1);
    }
  }

  /** A text as a row of bytes in a shelf. */
  static void text(NoSummer x, int shelf, String text) {
    x.row(shelf, 0, text.length());
    for (int i = 0; i < text.length(); i++) {
      x.put(shelf, i, text.charAt(i));
    }
  }

  /** The number of a law; shelf 7 is used. */
  static int law(NoSummer x, String text) {
    text(x, 7, text);
    return x.law(7);
  }

  /** A list of small numbers as a row of bytes in a shelf. */
  static void list(NoSummer x, int shelf, int... numbers) {
    x.row(shelf, 0, numbers.length);
    for (int i = 0; i < numbers.length; i++) {
      x.put(shelf, i, numbers[i]);
    }
  }

  /** The same warmth and wet in a land in the weeks 0 to 155; shelf 7 is used. */
  static void steadyWeather(NoSummer x, int land, int warm, int wet) {
    for (int kind = 0; kind < 2; kind++) {
      x.row(7, 2, 156);
      x.put(7, 0, kind == 0 ? warm : wet);
      for (int i = 1; i < 156; i *= 2) {
        x.copy(7, 0, 7, i, Math.min(i, 156 - i));
      }
      x.weather(land, 7, kind == 1);
    }
  }

  /** Holders of five kinds in two lands in week 6; a cart, a ship and a walker are on their way. */
  static NoSummer busyWorld() {
    NoSummer x = world(0, 1);
    x.road(0, 1, 12);
    x.holder(2, 0, 0);
    x.holder(1, 1, 80);
    x.holder(4, 0, 6);
    x.holder(5, 0, 2);
    x.holder(0, 0, 1);
    x.field(4, 9);
    x.goal(2, 1, 20);
    x.goal(3, 1, 0);
    x.force(1, 3, law(x, "1=2"));
    x.gives(0, 0, 300);
    x.gives(0, 1, 200);
    x.gives(0, 3, 3);
    x.gives(4, 0, 90);
    steadyWeather(x, 0, 7, 4);
    x.go(6);
    return x;
  }

  /** What can be told of all that there is, but the shelves, by some 270 calls. */
  static long[] told(NoSummer x) {
    long[] all = new long[300];
    int n = 0;
    for (int what = 0; what <= 10; what++) {
      all[n++] = x.count(what);
    }
    for (int h = 0; h < 6; h++) {
      for (int what = 0; what < 16; what++) {
        all[n++] = x.about(h, what);
      }
    }
    for (int d = 0; d < 3; d++) {
      all[n++] = x.price(d);
      all[n++] = x.far(0, d);
      all[n++] = x.read(0, d);
    }
    for (int week = 0; week < 7; week++) {
      for (int what = 0; what < 13; what++) {
        all[n++] = x.record(week, what);
      }
    }
    for (int part = 0; part < 5; part++) {
      all[n++] = x.cart(0, part);
    }
    for (int land = 0; land < 4; land++) {
      all[n++] = x.sky(land, 9, false);
      all[n++] = x.sky(land, 9, true);
      all[n++] = x.shut(land);
      all[n++] = x.worst(land, 2, 0, 30);
      all[n++] = x.behind(land, 3);
    }
    for (int law = 0; law < 3; law++) {
      all[n++] = x.may(law, 0, 0);
    }
    return all;
  }

  /** Afterwards nothing is in force that was: last, since it changes what it asks. */
  static long[] inForce(NoSummer x) {
    long[] all = new long[16];
    for (int i = 0; i < all.length; i++) {
      all[i] = x.force(i / 4, i % 4, -1);
    }
    return all;
  }

  /** A new object with districts of these lands, all of height 0. */
  static NoSummer world(int... lands) {
    NoSummer x = new NoSummer();
    for (int land : lands) {
      x.district(land, 0);
    }
    return x;
  }

  /** 1 for an IllegalArgumentException, 2 for an IllegalStateException, 0 for none. */
  static int skyThrows(NoSummer x, int land, int week, boolean wet) {
    try {
      x.sky(land, week, wet);
      return 0;
    } catch (IllegalArgumentException e) {
      return 1;
    } catch (IllegalStateException e) {
      return 2;
    }
  }

  static int elementThrows(NoSummer x, int d, int i) {
    try {
      x.element(d, i);
      return 0;
    } catch (IllegalArgumentException e) {
      return 1;
    } catch (IllegalStateException e) {
      return 2;
    }
  }
}
