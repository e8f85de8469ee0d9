/** Promises 8 to 12: holders, what comes to them, and what is told of them. */
public final class HoldersTest {
  private static final Check c = new Check();

  public static void main(String[] args) {
    holders();
    room();
    gifts();
    giftsOfEachKind();
    fields();
    goals();
    needs();
    needsAtTheEnds();
    about();
    aboutAllKinds();
    c.end("HoldersTest");
  }

  private static void holders() {
    NoSummer x = Check.world(0, 1);
    c.due(8, "kind -1", x.holder(-1, 0, 1), -1);
    c.due(8, "kind 6", x.holder(6, 0, 1), -1);
    c.due(8, "no district", x.holder(0, 2, 1), -1);
    c.due(8, "no district", x.holder(0, -1, 1), -1);
    c.due(8, "mouths -1", x.holder(0, 0, -1), -1);
    c.due(8, "mouths 1000", x.holder(0, 0, 1000), -1);
    for (int kind = 0; kind < 6; kind++) {
      c.due(8, "holder", x.holder(kind, kind % 2, kind == 5 ? 999 : kind), kind);
    }
    for (int kind = 0; kind < 6; kind++) {
      c.due(8, "its kind", x.about(kind, 0), kind);
      c.due(8, "its district", x.about(kind, 1), kind % 2);
      c.due(8, "its mouths", x.about(kind, 6), kind == 5 ? 999 : kind);
      for (int what = 2; what <= 5; what++) {
        c.due(8, "nothing at first", x.about(kind, what), 0);
      }
    }
  }

  private static void room() {
    NoSummer x = Check.world(0);
    for (int i = 0; i < 30; i++) {
      c.due(8, "holder", x.holder(1, 0, 0), i);
    }
    c.due(8, "no room", x.holder(1, 0, 0), -2);
    c.due(8, "-1 ahead of -2", x.holder(1, 1, 0), -1);
    c.due(8, "thirty", x.count(1), 30);
    c.due(12, "the last", x.about(29, 0), 1);
    c.due(12, "none behind it", x.about(30, 0), -1);
    c.due(9, "the last", x.gives(29, 0, 3), 3);
    c.due(9, "none behind it", x.gives(30, 0, 3), -1);
    c.due(35, "the last", x.keep(0, 1, 29), 0);
    c.due(35, "none behind it", x.keep(0, 1, 30), -1);
  }

  private static void gifts() {
    NoSummer x = Check.world(0);
    x.holder(2, 0, 0);
    c.due(9, "corn", x.gives(0, 0, 9999), 9999);
    c.due(9, "oats", x.gives(0, 1, 1), 1);
    c.due(9, "coin", x.gives(0, 2, 30), 30);
    c.due(9, "more coin", x.gives(0, 2, 12), 42);
    c.due(9, "horses", x.gives(0, 3, 998), 998);
    c.due(9, "horses above 999", x.gives(0, 3, 2), -2);
    c.due(9, "horses to 999", x.gives(0, 3, 1), 999);
    for (int i = 2; i <= 10; i++) {
      x.gives(0, 0, 9999);
    }
    c.due(9, "corn above 99999", x.gives(0, 0, 10), -2);
    c.due(9, "corn to 99999", x.gives(0, 0, 9), 99999);
    c.due(9, "told", x.about(0, 2), 99999);
    c.due(9, "told", x.about(0, 3), 1);
    c.due(9, "told", x.about(0, 4), 42);
    c.due(9, "told", x.about(0, 5), 999);
    c.due(9, "no holder", x.gives(1, 0, 1), -1);
    c.due(9, "no holder", x.gives(-1, 0, 1), -1);
    c.due(9, "no such what", x.gives(0, 4, 1), -1);
    c.due(9, "no such what", x.gives(0, -1, 1), -1);
    c.due(9, "0", x.gives(0, 1, 0), -1);
    c.due(9, "10000, and -1 ahead of -2", x.gives(0, 0, 10000), -1);
  }

  private static void giftsOfEachKind() {
    NoSummer x = Check.world(0);
    x.holder(5, 0, 0);
    for (int what = 0; what < 3; what++) {
      c.due(9, "1 of " + what, x.gives(0, what, 1), 1);
      for (int i = 1; i <= 10; i++) {
        c.due(9, "9999 of " + what, x.gives(0, what, 9999), i < 10 ? 1 + 9999 * i : 99991);
      }
      c.due(9, "above 99999 of " + what, x.gives(0, what, 9), -2);
      c.due(9, "refused, as it was", x.about(0, 2 + what), 99991);
      c.due(9, "99999 of " + what, x.gives(0, what, 8), 99999);
      c.due(9, "one more of " + what, x.gives(0, what, 1), -2);
    }
    c.due(9, "9999 horses", x.gives(0, 3, 9999), -2);
    c.due(9, "1000 horses", x.gives(0, 3, 1000), -2);
    c.due(9, "999 horses", x.gives(0, 3, 999), 999);
    c.due(9, "one more horse", x.gives(0, 3, 1), -2);
    c.due(9, "0 horses, -1 ahead of -2", x.gives(0, 3, 0), -1);
    c.due(9, "less than none", x.gives(0, 3, -1), -1);
  }

  private static void fields() {
    NoSummer x = Check.world(0);
    x.holder(0, 0, 4);
    x.holder(1, 0, 4);
    c.due(10, "at first", x.field(0, 999), 0);
    c.due(10, "what it was", x.field(0, 0), 999);
    c.due(10, "what it was", x.field(0, 5), 0);
    c.due(10, "no farm", x.field(1, 5), -3);
    c.due(10, "-1 ahead of -3", x.field(1, 1000), -1);
    c.due(10, "below 0", x.field(0, -1), -1);
    c.due(10, "no holder", x.field(2, 0), -1);
    c.due(10, "no holder", x.field(-1, 0), -1);
    c.due(10, "kept", x.field(0, 5), 5);
    for (int kind = 0; kind < 6; kind++) {
      NoSummer y = Check.world(0);
      y.holder(kind, 0, 4);
      c.due(10, "of kind " + kind, y.field(0, 999), kind == 0 ? 0 : -3);
      c.due(11, "goal of kind " + kind, y.goal(0, 0, 0), kind < 4 ? -3 : 1);
      c.due(11, "weeks of kind " + kind, y.goal(0, 0, 30), kind < 4 ? -3 : kind == 4 ? 1 : -1);
    }
  }

  private static void goals() {
    NoSummer x = Check.world(0, 1);
    x.holder(4, 0, 0);
    x.holder(5, 0, 0);
    x.holder(3, 0, 0);
    c.due(11, "none yet", x.about(0, 14), -4);
    c.due(11, "none yet", x.about(1, 14), -4);
    c.due(11, "a ship", x.goal(0, 1, 30), 1);
    c.due(11, "its goal", x.about(0, 14), 1);
    c.due(11, "its weeks", x.about(0, 13), 30);
    c.due(11, "it is still there", x.about(0, 1), 0);
    c.due(11, "weeks 0", x.goal(0, 1, 0), 1);
    c.due(11, "no weeks to go", x.about(0, 13), 0);
    c.due(11, "a walker", x.goal(1, 1, 0), 1);
    c.due(11, "its aim", x.about(1, 14), 1);
    c.due(11, "a walker with weeks", x.goal(1, 0, 1), -1);
    c.due(11, "its aim as it was", x.about(1, 14), 1);
    c.due(11, "neither", x.goal(2, 1, 0), -3);
    c.due(11, "neither, with weeks", x.goal(2, 1, 30), -3);
    c.due(11, "-1 ahead of -3", x.goal(2, 1, 31), -1);
    c.due(11, "-1 ahead of -3", x.goal(2, 2, 0), -1);
    c.due(11, "31 weeks", x.goal(0, 1, 31), -1);
    c.due(11, "-1 weeks", x.goal(0, 1, -1), -1);
    c.due(11, "a walker, -1 weeks", x.goal(1, 1, -1), -1);
    c.due(11, "neither, -1 weeks", x.goal(2, 1, -1), -1);
    c.due(11, "no district", x.goal(0, 2, 1), -1);
    c.due(11, "no holder", x.goal(-1, 0, 0), -1);
    c.due(11, "its goal as it was", x.about(0, 14), 1);
    c.due(11, "its weeks as they were", x.about(0, 13), 0);
    c.due(11, "no district", x.goal(0, -1, 1), -1);
    c.due(11, "no holder", x.goal(3, 0, 0), -1);
  }

  private static void needs() {
    NoSummer x = Check.world(0);
    int[] need = {16, 11, 11, 0, 5, 5};
    int[] keeps = {4 * 16 + 8 * 7, 44, 0, 100, 0, 20};
    for (int kind = 0; kind < 6; kind++) {
      x.holder(kind, 0, 11);
    }
    x.field(0, 7);
    for (int kind = 0; kind < 6; kind++) {
      c.due(12, "need of kind " + kind, x.about(kind, 9), need[kind]);
      c.due(12, "keeps of kind " + kind, x.about(kind, 10), keeps[kind]);
    }
  }

  /** Need and keeps of each kind with these mouths; the farm's field is 0. */
  private static void needsWith(int mouths, int[] need, int[] keeps) {
    NoSummer x = Check.world(0);
    for (int kind = 0; kind < 6; kind++) {
      x.holder(kind, 0, mouths);
      c.due(12, "need of kind " + kind + " with " + mouths, x.about(kind, 9), need[kind]);
      c.due(12, "keeps of kind " + kind + " with " + mouths, x.about(kind, 10), keeps[kind]);
    }
  }

  private static void needsAtTheEnds() {
    needsWith(0, new int[] {0, 0, 0, 0, 0, 0}, new int[] {0, 0, 0, 100, 0, 0});
    needsWith(1, new int[] {1, 1, 1, 0, 0, 0}, new int[] {4, 4, 0, 100, 0, 0});
    needsWith(2, new int[] {3, 2, 2, 0, 1, 1}, new int[] {12, 8, 0, 100, 0, 4});
    needsWith(999, new int[] {1498, 999, 999, 0, 499, 499}, new int[] {5992, 3996, 0, 100, 0, 1996});
    NoSummer x = Check.world(0);
    x.holder(0, 0, 0);
    x.field(0, 999);
    c.due(12, "keeps of a field of 999", x.about(0, 10), 7992);
  }

  private static void aboutAllKinds() {
    NoSummer x = Check.world(0, 0);
    for (int kind = 0; kind < 6; kind++) {
      x.holder(kind, 1, 3);
      for (int what = 11; what <= 15; what++) {
        c.due(12, what + " of kind " + kind, x.about(kind, what), what == 14 ? -4 : 0);
      }
      c.due(12, "what 16 of kind " + kind, x.about(kind, 16), -1);
      c.due(12, "what -1 of kind " + kind, x.about(kind, -1), -1);
    }
    x.goal(5, 0, 0);
    c.due(12, "an aim in district 0", x.about(5, 14), 0);
    c.due(12, "a walker has no weeks to go", x.about(5, 13), 0);
    x.goal(4, 0, 7);
    c.due(12, "a goal in district 0", x.about(4, 14), 0);
    c.due(12, "weeks to go", x.about(4, 13), 7);
  }

  private static void about() {
    NoSummer x = Check.world(0);
    x.holder(1, 0, 80);
    x.holder(0, 0, 0);
    c.due(12, "what -1", x.about(0, -1), -1);
    c.due(12, "nothing sown at first", x.about(1, 11), 0);
    c.due(12, "growth at first", x.about(1, 12), 0);
    c.due(12, "what 16", x.about(0, 16), -1);
    c.due(12, "no holder", x.about(2, 0), -1);
    c.due(12, "no holder", x.about(-1, 0), -1);
    c.due(12, "a town has no goal", x.about(0, 14), -4);
    c.due(12, "a town goes nowhere", x.about(0, 13), 0);
    c.due(12, "a town sows nothing", x.about(0, 11), 0);
    x.go(1);
    c.due(12, "hungry", x.about(0, 7), 80);
    c.due(12, "ill", x.about(0, 8), 18);
    c.due(12, "died", x.about(0, 15), 2);
    c.due(12, "mouths", x.about(0, 6), 78);
    x.field(1, 4);
    x.gives(1, 0, 3);
    Check.steadyWeather(x, 0, 0, 20);
    x.go(13);
    c.due(12, "sown", x.about(1, 11), 3);
    c.due(12, "growth below 0", x.about(1, 12), -18);
  }
}
