/** Promises 35 to 41: shelves. */
public final class ShelvesTest {
  private static final Check c = new Check();

  public static void main(String[] args) {
    atFirst();
    keep();
    rows();
    puts();
    elements();
    copies();
    weights();
    asThen();
    tosses();
    c.end("ShelvesTest");
  }

  /** Holders of all kinds with nine mouths, in districts 0 to 5. */
  private static NoSummer allKinds() {
    NoSummer x = Check.world(0, 1, 2, 3, 0, 1);
    for (int kind = 0; kind < 6; kind++) {
      x.holder(kind, kind, 9);
    }
    return x;
  }

  private static void atFirst() {
    NoSummer x = allKinds();
    for (int d = 0; d < 8; d++) {
      c.due(40, "nothing on shelf " + d, x.weight(d), -11);
      c.due(41, "nothing on shelf " + d, x.toss(d), -11);
      c.due(37, "nothing on shelf " + d, x.put(d, 0, 1), -11);
      c.due(38, "nothing on shelf " + d, Check.elementThrows(x, d, 0), 2);
      c.due(13, "nothing on shelf " + d, x.fault(d), -11);
      c.due(35, "nothing once more", x.keep(d, 0, 0), 0);
      c.due(36, "a row on shelf " + d, x.row(d, 2, d), 0);
    }
    for (int d = 0; d < 8; d++) {
      c.due(37, "its last element", x.put(d, d - 1, 100 + d), d == 0 ? -13 : 0);
      c.due(37, "one behind it", x.put(d, d, 1), -13);
      c.due(38, "one behind it", Check.elementThrows(x, d, d), 2);
    }
    for (int d = 1; d < 8; d++) {
      c.due(38, "each shelf has its own", x.element(d, d - 1), 100 + d);
    }
  }

  private static void keep() {
    NoSummer x = allKinds();
    c.due(35, "a holder", x.keep(0, 1, 5), 0);
    c.due(35, "nothing", x.keep(0, 0, 0), 0);
    c.due(35, "it is gone", x.weight(0), -11);
    c.due(35, "nothing, the others don't matter", x.keep(7, 0, -9), 0);
    c.due(35, "no shelf", x.keep(8, 1, 0), -1);
    c.due(35, "no shelf", x.keep(-1, 0, 0), -1);
    c.due(35, "what 2", x.keep(0, 2, 0), -1);
    c.due(35, "what -1", x.keep(0, -1, 0), -1);
    x.row(1, 0, 3);
    c.due(35, "no holder", x.keep(1, 1, 6), -1);
    c.due(35, "no holder", x.keep(1, 1, -1), -1);
    c.due(35, "refused changes nothing", x.element(1, 2), 0);
    x.keep(1, 1, 0);
    c.due(35, "in the place of the row", x.put(1, 0, 0), -12);
  }

  private static void rows() {
    NoSummer x = allKinds();
    c.due(36, "none", x.row(0, 0, 0), 0);
    c.due(36, "160", x.row(0, 2, 160), 0);
    for (int sort = 0; sort < 3; sort++) {
      c.due(36, "161 of sort " + sort, x.row(0, sort, 161), -1);
      c.due(36, "the least below 0", x.row(0, sort, Integer.MIN_VALUE), -14);
    }
    c.due(36, "the most", x.row(0, 0, Integer.MAX_VALUE), -1);
    c.due(36, "-1 long", x.row(0, 0, -1), -14);
    c.due(36, "as it was", x.put(0, 159, 1), 0);
    c.due(36, "sort 3", x.row(0, 3, 1), -1);
    c.due(36, "sort -1", x.row(0, -1, 1), -1);
    c.due(36, "no shelf", x.row(8, 0, 1), -1);
    c.due(36, "no shelf", x.row(-1, 0, 1), -1);
    c.due(36, "-1 ahead of -14", x.row(0, 3, -1), -1);
    x.keep(1, 1, 0);
    c.due(36, "in the place of a holder", x.row(1, 1, 2), 0);
    c.due(36, "all are 0", x.element(1, 1), 0);
    x.row(0, 2, 160);
    c.due(36, "0 again", x.element(0, 159), 0);
  }

  private static void puts() {
    NoSummer x = allKinds();
    x.keep(1, 1, 0);
    int[][] due = {{1, -1, 127, -128, 0, 112}, {-32767, -1, 127, 128, 256, 4464},
        {98305, -1, 127, 128, 256, 70000}};
    int[] put = {98305, -1, 127, 128, 256, 70000};
    for (int sort = 0; sort < 3; sort++) {
      x.row(0, sort, 2);
      for (int i = 0; i < put.length; i++) {
        c.due(37, "put", x.put(0, 1, put[i]), 0);
        c.due(38, "lowest bits of " + put[i], x.element(0, 1), due[sort][i]);
      }
      c.due(38, "the other", x.element(0, 0), 0);
    }
    c.due(37, "place 2", x.put(0, 2, 1), -13);
    c.due(37, "place -1", x.put(0, -1, 1), -13);
    c.due(37, "a holder", x.put(1, 0, 1), -12);
    c.due(37, "nothing", x.put(2, 0, 1), -11);
    c.due(37, "no shelf", x.put(8, 0, 1), -1);
    c.due(37, "no shelf", x.put(-1, 0, 1), -1);
  }

  private static void elements() {
    NoSummer x = allKinds();
    x.keep(1, 1, 0);
    x.row(0, 2, 2);
    x.put(0, 0, Integer.MIN_VALUE);
    c.due(38, "element", x.element(0, 0), Integer.MIN_VALUE);
    c.due(38, "a place", Check.elementThrows(x, 0, 1), 0);
    c.due(38, "place 2", Check.elementThrows(x, 0, 2), 2);
    c.due(38, "place -1", Check.elementThrows(x, 0, -1), 2);
    c.due(38, "a holder", Check.elementThrows(x, 1, 0), 2);
    c.due(38, "nothing", Check.elementThrows(x, 2, 0), 2);
    c.due(38, "no shelf", Check.elementThrows(x, 8, 0), 1);
    c.due(38, "no shelf", Check.elementThrows(x, -1, 0), 1);
  }

  private static void copies() {
    NoSummer x = allKinds();
    Check.list(x, 0, 1, 2, 3, 4, 5);
    x.row(1, 0, 3);
    c.due(39, "three", x.copy(0, 2, 1, 0, 3), 3);
    c.due(39, "first", x.element(1, 0), 3);
    c.due(39, "last", x.element(1, 2), 5);
    c.due(39, "onto itself, upwards", x.copy(0, 0, 0, 1, 4), 4);
    for (int i = 0; i < 5; i++) {
      c.due(39, "element " + i, x.element(0, i), Math.max(1, i));
    }
    c.due(39, "onto itself, downwards", x.copy(0, 2, 0, 0, 3), 3);
    c.due(39, "element 1", x.element(0, 1), 3);
    c.due(39, "none, at the ends", x.copy(0, 5, 1, 3, 0), 0);
    c.due(39, "behind the end", x.copy(0, 6, 1, 0, 0), -13);
    c.due(39, "behind the end there", x.copy(0, 0, 1, 4, 0), -13);
    c.due(39, "too many here", x.copy(0, 3, 1, 0, 3), -13);
    c.due(39, "too many there", x.copy(0, 0, 1, 1, 3), -13);
    c.due(39, "before the first", x.copy(0, -1, 1, 0, 1), -13);
    c.due(39, "before the first there", x.copy(0, 0, 1, -1, 1), -13);
    c.due(39, "less than none", x.copy(0, 0, 1, 0, -1), -13);
    c.due(39, "far too many", x.copy(0, 1, 1, 1, Integer.MAX_VALUE), -13);
    c.due(39, "far behind", x.copy(0, Integer.MAX_VALUE, 1, 0, 1), -13);
    x.row(2, 1, 3);
    x.keep(3, 1, 0);
    c.due(39, "another sort", x.copy(0, 0, 2, 0, 1), -12);
    c.due(39, "-12 ahead of -13", x.copy(0, 9, 2, 0, 1), -12);
    c.due(39, "a holder", x.copy(3, 0, 0, 0, 1), -12);
    c.due(39, "a holder there", x.copy(0, 0, 3, 0, 1), -12);
    c.due(39, "nothing", x.copy(4, 0, 0, 0, 1), -11);
    c.due(39, "nothing there, -11 ahead of -12", x.copy(3, 0, 4, 0, 1), -11);
    c.due(39, "no shelf", x.copy(8, 0, 0, 0, 1), -1);
    c.due(39, "no shelf there", x.copy(4, 0, -1, 0, 1), -1);
    c.due(39, "refused changes nothing", x.element(1, 0), 3);
  }

  private static void weights() {
    NoSummer x = allKinds();
    int[] due = {100 + 13 + 2 + 7, 100 + 9 + 2, 100 + 9 + 2 + 200, 100 + 2 + 200,
        2 * (100 + 4 + 2 + 200), 100 + 4 + 2};
    x.field(0, 7);
    for (int i = 0; i < 6; i++) {
      x.gives(i, 3, 2);
      x.keep(i, 1, i);
      c.due(40, "weight of kind " + i, x.weight(i), due[i]);
    }
    x.goal(5, 3, 0);
    c.due(40, "as then", x.weight(5), due[5]);
    x.keep(5, 1, 5);
    c.due(40, "with its aim", x.weight(5), due[5] + 3);
    c.due(40, "nothing", x.weight(6), -11);
    x.row(6, 0, 1);
    c.due(40, "a row", x.weight(6), -12);
    c.due(40, "no shelf", x.weight(8), -1);
    c.due(40, "no shelf", x.weight(-1), -1);
  }

  private static void asThen() {
    NoSummer x = allKinds();
    x.keep(0, 1, 0);
    x.keep(1, 1, 4);
    x.gives(0, 3, 5);
    x.field(0, 9);
    x.goal(4, 2, 1);
    c.due(35, "a farm as then", x.weight(0), 113);
    x.keep(2, 1, 4);
    x.go(1);
    c.due(41, "a ship as then, when it lay", x.toss(1), 4);
    c.due(41, "when it was on its way", x.toss(2), -15);
    c.due(40, "its weight", x.weight(2), 608);
    x.keep(2, 1, 4);
    c.due(41, "where it is now", x.toss(2), 2);
  }

  private static void tosses() {
    NoSummer x = allKinds();
    int[] due = {-15, 1, 2, 103, 4, 5};
    for (int i = 0; i < 6; i++) {
      x.keep(i, 1, i);
      c.due(41, "toss of kind " + i, x.toss(i), due[i]);
    }
    c.due(41, "again", x.toss(3), 103);
    c.due(41, "nothing", x.toss(6), -11);
    x.row(6, 0, 1);
    c.due(41, "a row", x.toss(6), -12);
    c.due(41, "no shelf", x.toss(8), -1);
    c.due(41, "no shelf", x.toss(-1), -1);
  }
}
