/** What the tests share: it counts wrong answers, and puts texts and weather on shelves. */
final class Check {
  private int wrong = 0;
  private int asked = 0;

  void due(int promise, String call, long got, long want) {
    asked++;
    if (got != want) {
      wrong++;
      System.out.println("promise " + promise + ": " + call + " answered " + got + ", due is " + want);
    }
  }

  void end(String name) {
    System.out.println(name + ": " + asked + " answers, " + wrong + " wrong");
    if (wrong != 0) {
      System.exit(1);
    }
  }

  /** A text as a row of bytes in a shelf. */
  static void text(NoSummer x, int shelf, String text) {
    x.row(shelf, 0, text.length());
    for (int i = 0; i < text.length(); i++) {
      x.put(shelf, i, text.charAt(i));
    }
  }

  /** The number of a law; shelf 7 is used. */
  static int law(NoSummer x, String text) {
    text(x, 7, text);
    return x.law(7);
  }

  /** A list of small numbers as a row of bytes in a shelf. */
  static void list(NoSummer x, int shelf, int... numbers) {
    x.row(shelf, 0, numbers.length);
    for (int i = 0; i < numbers.length; i++) {
      x.put(shelf, i, numbers[i]);
    }
  }

  /** The same warmth and wet in a land in the weeks 0 to 155; shelf 7 is used. */
  static void steadyWeather(NoSummer x, int land, int warm, int wet) {
    for (int kind = 0; kind < 2; kind++) {
      x.row(7, 2, 156);
      for (int i = 0; i < 156; i++) {
        x.put(7, i, kind == 0 ? warm : wet);
      }
      x.weather(land, 7, kind == 1);
    }
  }

  /** A new object with districts of these lands, all of height 0. */
  static NoSummer world(int... lands) {
    NoSummer x = new NoSummer();
    for (int land : lands) {
      x.district(land, 0);
    }
    return x;
  }

  /** 1 for an IllegalArgumentException, 2 for an IllegalStateException, 0 for none. */
  static int skyThrows(NoSummer x, int land, int week, boolean wet) {
    try {
      x.sky(land, week, wet);
      return 0;
    } catch (IllegalArgumentException e) {
      return 1;
    } catch (IllegalStateException e) {
      return 2;
    }
  }

  static int elementThrows(NoSummer x, int d, int i) {
    try {
      x.element(d, i);
      return 0;
    } catch (IllegalArgumentException e) {
      return 1;
    } catch (IllegalStateException e) {
      return 2;
    }
  }
}
