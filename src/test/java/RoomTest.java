import java.lang.management.ManagementFactory;

/**
 * Runs of 512 calls, the dearest among them: every call ends without an
 * exception that the document doesn't name, and a run stays in its room.
 */
public final class RoomTest {
  /** Half of what 7.3 million elements of four bytes would take. */
  private static final long ROOM = 14_600_000L;
  private static final int CALLS = 512;

  private static final Check c = new Check();
  private static long seed = 1816;

  public static void main(String[] args) {
    for (int run = 0; run < 60; run++) {
      wildRun();
    }
    for (int call = 0; call < 6; call++) {
      dearRun(call);
      long before = allocated();
      dearRun(call);
      long took = allocated() - before;
      c.due(31, "room of run " + call + " (" + took + " bytes)", took < ROOM ? 1 : 0, 1);
    }
    c.end("RoomTest");
  }

  private static long allocated() {
    return ((com.sun.management.ThreadMXBean) ManagementFactory.getThreadMXBean())
        .getThreadAllocatedBytes(Thread.currentThread().getId());
  }

  /** A world with all the holders, laws and carts that there can be. */
  private static NoSummer fullWorld() {
    NoSummer x = new NoSummer();
    for (int d = 0; d < 10; d++) {
      x.district(d % 4, d);
      if (d > 0) {
        x.road(d - 1, d, d);
      }
    }
    for (int h = 0; h < 30; h++) {
      x.holder(h % 6, h % 10, 5 + h);
      for (int what = 0; what < 4; what++) {
        x.gives(h, what, what == 3 ? 10 : 900);
      }
      x.goal(h, h % 10, h % 6 == 4 ? 20 : 0);
    }
    for (int i = 0; i < 20; i++) {
      Check.law(x, i % 2 == 0 ? "r>0|h>3&w<40" : "c>100|p>20&!(k=3)");
    }
    for (int i = 0; i < 16; i++) {
      x.force(i / 4, i % 4, i);
    }
    Check.list(x, 0, 1, 2, 3);
    return x;
  }

  private static void dearRun(int call) {
    NoSummer x = fullWorld();
    Check.text(x, 1, "p=1" + "|p=1".repeat(39));
    int calls = call == 0 ? 40 : CALLS;
    for (int i = 0; i < calls; i++) {
      switch (call) {
        case 0: x.best(i % 4, i % 4, 30); break;
        case 1: x.turned(0, 0, 4 + 6 * (i % 5)); break;
        case 2: x.fault(1); break;
        case 3: x.keep(i % 8, 1, i % 30); break;
        case 4: x.row(i % 8, 2, 160); break;
        default:
          if (i % 3 == 0) {
            x.image();
          } else if (i % 3 == 1) {
            x.go(1);
          } else {
            x.restore();
          }
          break;
      }
    }
  }

  private static int next(int bound) {
    seed = seed * 6364136223846793005L + 1442695040888963407L;
    return (int) ((seed >>> 33) % bound);
  }

  /** Mostly small numbers, some at and beyond the bounds of all ints. */
  private static int number() {
    switch (next(24)) {
      case 0: return -1;
      case 1: return Integer.MAX_VALUE;
      case 2: return Integer.MIN_VALUE;
      case 3: return next(200);
      case 4: return next(20000) - 10000;
      default: return next(10);
    }
  }

  private static void wildRun() {
    NoSummer x = next(3) == 0 ? new NoSummer() : fullWorld();
    for (int i = 0; i < CALLS; i++) {
      int call = next(40);
      try {
        wildCall(x, call, number(), number(), number(), number());
      } catch (IllegalArgumentException e) {
        c.due(38, "an IllegalArgumentException of call " + call, call == 4 || call == 36 ? 1 : 0, 1);
      } catch (IllegalStateException e) {
        c.due(38, "an IllegalStateException of call " + call, call == 36 ? 1 : 0, 1);
      }
    }
    c.due(34, "mouths of a wild run", x.count(9) >= 0 ? 1 : 0, 1);
  }

  private static void wildCall(NoSummer x, int call, int a, int b, int d, int e) {
    switch (call) {
      case 0: x.district(a, b); break;
      case 1: x.road(a, b, d); break;
      case 2: x.far(a, b); break;
      case 3: x.weather(a, b, d > 3); break;
      case 4: x.sky(a, b, d > 3); break;
      case 5: x.price(a); break;
      case 6: x.holder(a, b, d); break;
      case 7: x.gives(a, b, d); break;
      case 8: x.field(a, b); break;
      case 9: x.goal(a, b, d); break;
      case 10: x.about(a, b); break;
      case 11: x.fault(a); break;
      case 12: x.law(a); break;
      case 13: x.force(a, b, d); break;
      case 14: x.may(a, b, d); break;
      case 15: x.shut(a); break;
      case 16: x.go(a); break;
      case 17: x.record(a, b); break;
      case 18: x.read(a, b); break;
      case 19: x.sends(a); break;
      case 20: x.cart(a, b); break;
      case 21: x.brings(a, b, d); break;
      case 22: x.relief(a, b); break;
      case 23: x.coin(a, b, d); break;
      case 24: x.turn(a, b, d); break;
      case 25: x.turning(a, b); break;
      case 26: x.turned(a, b, d); break;
      case 27: x.behind(a, b); break;
      case 28: x.worst(a, b, d, e); break;
      case 29: x.best(a, b, d); break;
      case 30: x.image(); break;
      case 31: x.restore(); break;
      case 32: x.count(a); break;
      case 33: x.keep(a, b, d); break;
      case 34: x.row(a, b, d); break;
      case 35: x.put(a, b, d); break;
      case 36: x.element(a, b); break;
      case 37: x.copy(a, b, d, e, b); break;
      case 38: x.weight(a); break;
      default: x.toss(a); break;
    }
  }
}
