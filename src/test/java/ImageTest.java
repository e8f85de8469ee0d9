/** Promises 32 to 34: the image, and what is counted. */
public final class ImageTest {
  private static final Check c = new Check();

  public static void main(String[] args) {
    imageAndRestore();
    allThatThereIs();
    cartsAndRoads();
    theMidstOfTheYear();
    kindsChange();
    counts();
    c.end("ImageTest");
  }

  private static void imageAndRestore() {
    NoSummer x = Check.world(0);
    c.due(33, "none yet", x.restore(), -3);
    c.due(32, "now", x.image(), 0);
    x.go(5);
    c.due(33, "now as it was", x.restore(), 0);
    c.due(34, "now", x.count(3), 0);
    x.go(7);
    c.due(32, "a new one", x.image(), 7);
    x.go(1);
    c.due(33, "the new one", x.restore(), 7);
    x.go(2);
    c.due(33, "once more", x.restore(), 7);
  }

  private static void allThatThereIs() {
    NoSummer x = Check.busyWorld();
    x.row(0, 0, 4);
    x.keep(1, 1, 0);
    c.due(32, "now", x.image(), 6);
    x.district(2, 3);
    x.road(0, 1, 3);
    x.road(1, 2, 3);
    x.holder(3, 2, 7);
    x.force(1, 3, -1);
    x.force(0, 0, Check.law(x, "1=1"));
    x.goal(2, 0, 3);
    x.goal(3, 0, 0);
    x.field(4, 1);
    x.gives(1, 2, 77);
    Check.steadyWeather(x, 0, -3, 9);
    x.put(0, 2, 5);
    x.keep(1, 1, 4);
    x.go(26);
    x.go(26);
    c.due(33, "now", x.restore(), 6);
    long[] now = Check.told(x);
    long[] due = Check.told(Check.busyWorld());
    for (int i = 0; i < due.length; i++) {
      c.due(33, "what is told at " + i, now[i], due[i]);
    }
    c.due(33, "the shelves are as they are", x.element(0, 2), 5);
    c.due(33, "the shelves are as they are", x.weight(1), 100 + 1 + 1);
    c.due(33, "weeks behind it are gone", x.record(6, 10), -3);
    x.go(1);
    c.due(33, "the cart arrives again", x.about(1, 2), 30);
    c.due(33, "no new district", x.price(2), -1);
  }

  private static void cartsAndRoads() {
    NoSummer x = Check.world(0, 0);
    x.road(0, 1, 22);
    x.holder(2, 0, 0);
    x.holder(1, 1, 7);
    x.gives(0, 0, 500);
    x.gives(0, 1, 500);
    x.gives(0, 3, 3);
    // 45 as read in week 9 is the first price above 19 and 22.
    x.go(10);
    c.due(32, "leagues left", x.cart(0, 4), 12);
    x.image();
    x.go(1);
    c.due(22, "leagues left a week later", x.cart(0, 4), 2);
    x.road(0, 1, 5);
    x.restore();
    c.due(33, "leagues left", x.cart(0, 4), 12);
    c.due(33, "its corn", x.cart(0, 2), 30);
    c.due(33, "far", x.far(0, 1), 22);
    c.due(33, "the road", x.road(0, 1, 22), 22);
  }

  private static void theMidstOfTheYear() {
    NoSummer x = Check.world(0);
    x.holder(0, 0, 0);
    x.field(0, 8);
    x.gives(0, 0, 9);
    Check.steadyWeather(x, 0, 9, 5);
    x.go(20);
    x.image();
    x.go(20);
    c.due(18, "harvest: 8 by 207 by 20, cut", x.about(0, 2), 1 + 82);
    x.restore();
    c.due(33, "sown", x.about(0, 11), 8);
    c.due(33, "growth", x.about(0, 12), 8 * 9);
    c.due(33, "corn", x.about(0, 2), 1);
  }

  private static void kindsChange() {
    NoSummer x = Check.world(0);
    x.holder(0, 0, 4);
    x.image();
    x.holder(4, 0, 8);
    x.goal(1, 0, 9);
    x.worst(0, 0, -1, 1);
    x.restore();
    c.due(33, "the ship is gone", x.about(1, 0), -1);
    c.due(33, "a farm in its place", x.holder(0, 0, 5), 1);
    x.field(1, 3);
    c.due(30, "two hungry farms in mind, no ship", x.worst(0, 0, -1, 1), 3 + 4);
    x.image();
    x.go(1);
    x.restore();
    c.due(33, "its kind", x.about(1, 0), 0);
    c.due(33, "its field", x.field(1, 0), 3);
    c.due(33, "its mouths", x.about(1, 6), 5);
  }

  private static void counts() {
    NoSummer x = Check.world(0, 1, 2);
    x.holder(0, 0, 80);
    x.holder(2, 1, 20);
    x.field(0, 40);
    x.gives(0, 0, 2000);
    x.gives(1, 0, 1000);
    x.gives(0, 1, 12);
    x.gives(1, 1, 30);
    x.gives(0, 2, 7);
    x.gives(1, 2, 8);
    x.gives(0, 3, 2);
    x.gives(1, 3, 3);
    Check.law(x, "1=1");
    c.due(34, "districts", x.count(0), 3);
    c.due(34, "holders", x.count(1), 2);
    c.due(34, "laws", x.count(2), 1);
    c.due(34, "now", x.count(3), 0);
    c.due(34, "carts", x.count(4), 0);
    c.due(34, "corn", x.count(5), 3000);
    c.due(34, "oats", x.count(6), 42);
    c.due(34, "coin", x.count(7), 15);
    c.due(34, "horses", x.count(8), 5);
    c.due(34, "mouths", x.count(9), 100);
    c.due(34, "died", x.count(10), 0);
    c.due(34, "-1", x.count(-1), -1);
    c.due(34, "11", x.count(11), -1);
    x.go(11);
    c.due(34, "sown is corn", x.count(5), 3000 - 11 * 140);
    c.due(34, "now", x.count(3), 11);
    x.go(26);
    c.due(34, "mouths and dead", x.count(9) + x.count(10), 100);
    c.due(34, "dead as recorded", x.count(10), x.record(36, 11));
    c.due(34, "dead as told", x.count(10), x.about(0, 15) + x.about(1, 15));
  }
}
