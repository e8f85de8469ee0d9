import java.util.Arrays;

/** The last of the Terms: which of several refusals is answered, and that one changes nothing. */
public final class RefusalsTest {
  private static final Check c = new Check();

  /** A call that is refused. */
  private interface Call {
    long on(NoSummer x);
  }

  private static final long[] TOLD = Check.told(world());
  private static final long[] IN_FORCE = Check.inForce(world());
  private static final long[] SHELVED = shelved(world());

  public static void main(String[] args) {
    theMap();
    holders();
    laws();
    weeks();
    reliefAndShips();
    acts();
    shelves();
    fullWorld();
    c.end("RefusalsTest");
  }

  /** Shelf 0: bytes, no law; 1: shorts; 2: the farm; 3: nothing; 4: ten districts' numbers. */
  private static NoSummer world() {
    NoSummer x = Check.busyWorld();
    Check.text(x, 0, "p<");
    x.row(1, 1, 2);
    x.put(1, 1, -9);
    x.keep(2, 1, 4);
    Check.list(x, 4, 0, 1, 2);
    x.image();
    return x;
  }

  private static long[] shelved(NoSummer x) {
    long[] all = new long[24];
    for (int d = 0; d < 8; d++) {
      all[3 * d] = x.weight(d);
      all[3 * d + 1] = x.toss(d);
      for (int i = 0; i < 4; i++) {
        all[3 * d + 2] = 1000 * all[3 * d + 2]
            + (Check.elementThrows(x, d, i) == 0 ? x.element(d, i) : 500);
      }
    }
    return all;
  }

  private static void refused(int promise, String name, long want, Call call) {
    NoSummer x = world();
    c.due(promise, name, call.on(x), want);
    same(promise, name + ": what is told", Check.told(x), TOLD);
    same(promise, name + ": what is shelved", shelved(x), SHELVED);
    same(promise, name + ": what is in force", Check.inForce(x), IN_FORCE);
  }

  private static void same(int promise, String name, long[] got, long[] due) {
    c.due(promise, name, Arrays.equals(got, due) ? 1 : 0, 1);
  }

  private static void theMap() {
    refused(2, "land 4", -1, x -> x.district(4, 0));
    refused(2, "height 10", -1, x -> x.district(0, 10));
    refused(3, "one twice", -1, x -> x.road(1, 1, 3));
    refused(3, "31 leagues", -1, x -> x.road(0, 1, 31));
    refused(3, "no district 2", -1, x -> x.road(0, 2, 3));
    refused(5, "land 4", -1, x -> x.weather(4, 1, false));
    refused(5, "nothing", -11, x -> x.weather(0, 3, false));
    refused(5, "a holder", -12, x -> x.weather(0, 2, true));
    refused(5, "land 4 ahead of nothing", -1, x -> x.weather(4, 3, true));
    refused(6, "land 4", 1, x -> Check.skyThrows(x, 4, 0, false));
    refused(6, "week 157", 1, x -> Check.skyThrows(x, 0, 157, true));
  }

  private static void holders() {
    refused(8, "kind 6", -1, x -> x.holder(6, 0, 1));
    refused(8, "1000 mouths", -1, x -> x.holder(0, 0, 1000));
    refused(8, "no district 2", -1, x -> x.holder(0, 2, 1));
    refused(9, "10000", -1, x -> x.gives(0, 0, 10000));
    refused(9, "what 4", -1, x -> x.gives(0, 4, 1));
    refused(9, "horses above 999", -2, x -> x.gives(4, 3, 1000));
    refused(10, "field 1000", -1, x -> x.field(4, 1000));
    refused(10, "a town", -3, x -> x.field(1, 3));
    refused(10, "a town, field 1000", -1, x -> x.field(1, 1000));
    refused(11, "31 weeks", -1, x -> x.goal(2, 0, 31));
    refused(11, "a walker with weeks", -1, x -> x.goal(3, 0, 1));
    refused(11, "a town", -3, x -> x.goal(1, 0, 0));
    refused(11, "a town, no district 2", -1, x -> x.goal(1, 2, 0));
    refused(12, "what 16", -1, x -> x.about(0, 16));
  }

  private static void laws() {
    refused(13, "no shelf", -1, x -> x.fault(8));
    refused(13, "nothing", -11, x -> x.fault(3));
    refused(13, "shorts", -12, x -> x.fault(1));
    refused(13, "a holder", -12, x -> x.fault(2));
    refused(13, "a fault", 2, x -> x.fault(0));
    refused(14, "no shelf", -1, x -> x.law(8));
    refused(14, "nothing", -11, x -> x.law(3));
    refused(14, "shorts", -12, x -> x.law(1));
    refused(14, "a holder", -12, x -> x.law(2));
    refused(14, "a fault", -102, x -> x.law(0));
    refused(15, "land 4", -1, x -> x.force(4, 0, 0));
    refused(15, "purpose 4", -1, x -> x.force(1, 4, 0));
    refused(15, "law 1", -1, x -> x.force(1, 3, 1));
    refused(15, "law -2", -1, x -> x.force(1, 3, -2));
    refused(16, "law 1", -1, x -> x.may(1, 0, 0));
    refused(16, "holder 5", -1, x -> x.may(0, 0, 5));
    refused(17, "land 4", -1, x -> x.shut(4));
  }

  private static void weeks() {
    refused(18, "0 weeks", -1, x -> x.go(0));
    refused(18, "27 weeks", -1, x -> x.go(27));
    refused(19, "what 13", -1, x -> x.record(0, 13));
    refused(19, "no district then", -1, x -> x.record(0, 2));
    refused(19, "it didn't go by", -3, x -> x.record(6, 0));
    refused(20, "no district 2", -1, x -> x.read(0, 2));
    refused(21, "holder 5", -1, x -> x.sends(5));
    refused(21, "a town", -3, x -> x.sends(1));
    refused(22, "no cart 1", -1, x -> x.cart(1, 0));
    refused(22, "what 5", -1, x -> x.cart(0, 5));
    refused(23, "100 horses", -1, x -> x.brings(0, 1, 100));
  }

  private static void reliefAndShips() {
    refused(24, "none", -1, x -> x.relief(0, 0));
    refused(24, "a dealer", -3, x -> x.relief(0, 1));
    refused(24, "a dealer, 10000", -1, x -> x.relief(0, 10000));
    refused(25, "as 3", -1, x -> x.coin(0, 1, 3));
    refused(26, "a word too late", -3, x -> x.turn(2, 0, 14));
    refused(26, "a word too late, no district 2", -1, x -> x.turn(2, 2, 14));
    refused(26, "a town", -1, x -> x.turn(1, 0, 0));
    refused(27, "word 31", -1, x -> x.turning(4, 31));
    refused(27, "nothing", -11, x -> x.turning(3, 0));
    refused(27, "a holder", -12, x -> x.turning(2, 0));
    refused(27, "shorts", -12, x -> x.turning(1, 0));
    refused(27, "no district 2", -13, x -> x.turning(4, 0));
    refused(28, "no ship", -1, x -> x.turned(4, 0, 1));
    refused(28, "nothing", -11, x -> x.turned(3, 0, 2));
    refused(28, "a holder", -12, x -> x.turned(2, 0, 2));
    refused(28, "shorts", -12, x -> x.turned(1, 0, 2));
    refused(28, "no district 2", -13, x -> x.turned(4, 0, 2));
  }

  private static void acts() {
    refused(29, "land 4", -1, x -> x.behind(4, 1));
    refused(29, "31 weeks", -1, x -> x.behind(0, 31));
    refused(30, "law 1", -1, x -> x.worst(0, 2, 1, 1));
    refused(30, "31 weeks", -1, x -> x.worst(0, 2, 0, 31));
    refused(31, "purpose 4", -1, x -> x.best(0, 4, 1));
    refused(31, "31 weeks", -1, x -> x.best(0, 2, 31));
    refused(34, "what 11", -1, x -> x.count(11));
    NoSummer y = new NoSummer();
    y.district(3, 3);
    y.holder(1, 0, 9);
    c.due(33, "no image", y.restore(), -3);
    c.due(33, "the district is there", y.count(0), 1);
    c.due(33, "the town is there", y.about(0, 6), 9);
  }

  private static void shelves() {
    refused(35, "what 2", -1, x -> x.keep(2, 2, 0));
    refused(35, "holder 5", -1, x -> x.keep(2, 1, 5));
    refused(35, "shelf 8", -1, x -> x.keep(8, 0, 0));
    refused(36, "161", -1, x -> x.row(2, 0, 161));
    refused(36, "sort 3", -1, x -> x.row(0, 3, 1));
    refused(36, "below 0", -14, x -> x.row(2, 0, -1));
    refused(36, "sort 3, below 0", -1, x -> x.row(1, 3, -1));
    refused(37, "nothing", -11, x -> x.put(3, 0, 1));
    refused(37, "a holder", -12, x -> x.put(2, 0, 1));
    refused(37, "place 2", -13, x -> x.put(1, 2, 1));
    refused(37, "place -1", -13, x -> x.put(1, -1, 1));
    refused(38, "no shelf", 1, x -> Check.elementThrows(x, 8, 0));
    refused(38, "nothing", 2, x -> Check.elementThrows(x, 3, 0));
    refused(39, "nothing", -11, x -> x.copy(0, 0, 3, 0, 1));
    refused(39, "nothing ahead of a holder", -11, x -> x.copy(2, 0, 3, 0, 1));
    refused(39, "another sort", -12, x -> x.copy(0, 0, 1, 0, 1));
    refused(39, "a holder", -12, x -> x.copy(0, 0, 2, 0, 1));
    refused(39, "places", -13, x -> x.copy(4, 0, 0, 0, 3));
    refused(39, "below 0", -13, x -> x.copy(4, 0, 0, 0, -1));
    refused(40, "nothing", -11, x -> x.weight(3));
    refused(40, "a row", -12, x -> x.weight(0));
    refused(41, "nothing", -11, x -> x.toss(3));
    refused(41, "a row", -12, x -> x.toss(1));
    refused(41, "a farm has none", -15, x -> x.toss(2));
  }

  /** What is refused for want of room, and -1 ahead of that. */
  private static void fullWorld() {
    NoSummer x = Check.world(0, 0, 0, 0, 0, 0, 0, 0, 0, 0);
    for (int i = 0; i < 30; i++) {
      x.holder(1, 9, 0);
    }
    for (int i = 0; i < 20; i++) {
      Check.law(x, "1=1");
    }
    for (int i = 0; i < 6; i++) {
      x.go(26);
    }
    c.due(2, "districts", x.district(0, 0), -2);
    c.due(2, "land 4", x.district(4, 0), -1);
    c.due(8, "holders", x.holder(1, 9, 0), -2);
    c.due(8, "kind 6", x.holder(6, 9, 0), -1);
    c.due(14, "laws", x.law(7), -2);
    c.due(14, "no shelf", x.law(8), -1);
    c.due(18, "weeks", x.go(1), -2);
    c.due(18, "27 weeks", x.go(27), -1);
    c.due(29, "weeks", x.behind(0, 1), -2);
    c.due(29, "land 4", x.behind(4, 1), -1);
    c.due(30, "weeks", x.worst(0, 0, 19, 1), -2);
    c.due(30, "law 20", x.worst(0, 0, 20, 1), -1);
    c.due(31, "weeks", x.best(0, 0, 1), -2);
    c.due(31, "0 weeks", x.best(0, 0, 0), -1);
    c.due(32, "now", x.image(), 156);
    c.due(33, "now", x.restore(), 156);
    int[] counts = {10, 30, 20, 156};
    for (int what = 0; what < counts.length; what++) {
      c.due(34, "count(" + what + ")", x.count(what), counts[what]);
    }
  }
}
