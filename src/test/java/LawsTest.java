/** Promises 13 to 17: faults, laws, what is in force, what holds. */
public final class LawsTest {
  private static final Check c = new Check();

  public static void main(String[] args) {
    faults();
    depth();
    depthOfWork();
    faultRefusals();
    laws();
    force();
    holds();
    fields();
    kinds();
    mayRefusals();
    shut();
    c.end("LawsTest");
  }

  private static void fault(String text, int want) {
    NoSummer x = new NoSummer();
    Check.text(x, 0, text);
    c.due(13, "fault of " + text, x.fault(0), want);
    c.due(14, "law of " + text, x.law(0), want == -4 ? 0 : -100 - want);
    c.due(14, "laws then", x.count(2), want == -4 ? 1 : 0);
  }

  private static void faults() {
    fault("p<1", -4);
    fault("", 0);
    fault("p", 1);
    fault("p<", 2);
    fault("p<1|", 4);
    fault("p<1&", 4);
    fault("p<1|!(w=2&c>o+1-g)|m=h&k=r|b<0", -4);
    fault("!!!p=1", -4);
    fault("p<1&!w>2|c=3", -4);
    fault("9999=0", -4);
    fault("10000=0", 4);
    fault("01=0", 1);
    fault("p=00", 3);
    fault("p=0+0-0", -4);
    fault("0=0", -4);
    fault("p<1<2", 3);
    fault("p+", 2);
    fault("p+|", 2);
    fault("-1<p", 0);
    fault("p<-1", 2);
    fault("p<(1)", 2);
    fault("(p)<1", 2);
    fault("(p<1", 4);
    fault("(p<1)", -4);
    fault("(p<1))", 5);
    fault("p<1)", 3);
    fault("()", 1);
    fault("(p<1)+1", 5);
    fault("(p<1)p", 5);
    fault("!", 1);
    fault("!p", 2);
    fault("p!<1", 1);
    fault("p <1", 1);
    fault("p<1 ", 3);
    fault("x<1", 0);
    fault("P<1", 0);
    fault("p<a", 2);
    fault("pw<1", 1);
    fault("p1<1", 1);
    fault("1p<1", 1);
    fault("p<=1", 2);
    fault("p<1||w<1", 4);
    fault("p<1&&w<1", 4);
    fault("|p<1", 0);
    fault("p&w", 1);
    NoSummer x = new NoSummer();
    Check.text(x, 0, "p<1");
    x.put(0, 1, '<' + 128);
    c.due(13, "a byte below 0", x.fault(0), 1);
    x.put(0, 1, 0);
    c.due(13, "a byte 0", x.fault(0), 1);
  }

  private static void depth() {
    String open = "((((((((";
    String shut = "))))))))";
    fault(open + "p=1" + shut, -4);
    fault("(" + open + "p=1" + shut + ")", 8);
    fault("!(!" + open, 10);
    fault(open + "p=1" + shut + "&" + open + "w=2" + shut, -4);
    fault("!".repeat(157) + "p=1", -4);
    fault("p=1" + "+1".repeat(78), -4);
    fault("p=1" + "|p=1".repeat(39), -4);
    fault("1".repeat(160), 4);
    fault("(p=1|".repeat(8) + "w<3" + shut, -4);
  }

  /** At each of eight depths something of OR and of AND waits. */
  private static void depthOfWork() {
    String in = "0=1|1=1&(".repeat(8);
    String out = ")".repeat(8);
    may(in + "0=1|1=1&1<0+2" + out, 1);
    may(in + "0=1|1=1&1<0+1" + out, 0);
    may(in + "0=1|1=1&2-1-1=0" + out, 1);
    fault(in + "(0=1)" + out, 9 * 8);
    fault("p=1&((((((((" + "(p=1", 12);
    fault("p=1|(p=1)&((((((((p=1)))))))))", 29);
  }

  private static void faultRefusals() {
    NoSummer x = Check.world(0);
    x.holder(1, 0, 1);
    c.due(13, "no shelf", x.fault(8), -1);
    c.due(13, "no shelf", x.fault(-1), -1);
    c.due(13, "nothing", x.fault(0), -11);
    x.keep(0, 1, 0);
    c.due(13, "a holder", x.fault(0), -12);
    x.row(0, 1, 3);
    c.due(13, "shorts", x.fault(0), -12);
    x.row(0, 2, 3);
    c.due(13, "ints", x.fault(0), -12);
    x.row(0, 0, 0);
    c.due(13, "an empty text ends too early", x.fault(0), 0);
    c.due(14, "-100 less 0", x.law(0), -100);
    c.due(14, "no shelf, though it would be a fault", x.law(9), -1);
  }

  private static void laws() {
    NoSummer x = Check.world(0);
    x.holder(1, 0, 1);
    x.keep(1, 1, 0);
    c.due(14, "no shelf", x.law(8), -1);
    c.due(14, "no shelf", x.law(-1), -1);
    c.due(14, "nothing", x.law(0), -11);
    c.due(14, "a holder", x.law(1), -12);
    x.row(2, 1, 3);
    c.due(14, "shorts", x.law(2), -12);
    Check.text(x, 0, "1=1");
    for (int i = 0; i < 20; i++) {
      c.due(14, "its number", x.law(0), i);
    }
    c.due(14, "no room", x.law(0), -2);
    c.due(14, "-1 ahead of -2", x.law(8), -1);
    c.due(14, "-2 ahead of -11", x.law(5), -2);
    c.due(14, "-2 ahead of -12", x.law(1), -2);
    Check.text(x, 0, "1=");
    c.due(14, "-2 ahead of a fault", x.law(0), -2);
    c.due(14, "the row changed, the law did not", x.may(0, 0, -1), 1);
  }

  private static void force() {
    NoSummer x = new NoSummer();
    c.due(15, "no such law", x.force(0, 0, 0), -1);
    Check.law(x, "1=1");
    Check.law(x, "1=2");
    c.due(15, "none ahead", x.force(0, 0, 1), -4);
    c.due(15, "the one ahead", x.force(0, 0, 0), 1);
    c.due(15, "another purpose", x.force(0, 3, 0), -4);
    c.due(15, "another land", x.force(3, 0, 1), -4);
    c.due(15, "to none", x.force(0, 0, -1), 0);
    c.due(15, "none again", x.force(0, 0, -1), -4);
    c.due(15, "land 4", x.force(4, 0, 0), -1);
    c.due(15, "land -1", x.force(-1, 0, 0), -1);
    c.due(15, "purpose 4", x.force(0, 4, 0), -1);
    c.due(15, "purpose -1", x.force(0, -1, 0), -1);
    c.due(15, "law 2", x.force(0, 0, 2), -1);
    c.due(15, "law -2", x.force(0, 0, -2), -1);
    c.due(15, "as it was", x.force(0, 3, -1), 0);
  }

  private static void may(String text, int want) {
    NoSummer x = Check.world(1);
    x.holder(2, 0, 12);
    x.gives(0, 0, 34);
    x.gives(0, 1, 56);
    x.gives(0, 2, 78);
    c.due(16, "told " + text, Check.law(x, text), 0);
    c.due(16, "may " + text, x.may(0, 3, 0), want);
  }

  private static void holds() {
    may("1<2", 1);
    may("2<2", 0);
    may("2>1", 1);
    may("2>2", 0);
    may("2=2", 1);
    may("2=3", 0);
    may("10-3-2=5", 1);
    may("10-3+2=9", 1);
    may("1-2<0", 1);
    may("5=2+3", 1);
    may("!1=1", 0);
    may("!!1=1", 1);
    may("!1=1|1=1", 1);
    may("!(1=1|1=1)", 0);
    may("1=1|1=1&1=2", 1);
    may("(1=1|1=1)&1=2", 0);
    may("1=2&1=1|1=1", 1);
    may("1=2&(1=1|1=1)", 0);
    may("1=2|1=2|1=1", 1);
    may("1=1&1=1&1=2", 0);
    may("9999+9999=9999+9999", 1);
  }

  private static void fields() {
    may("p=20", 1);
    may("w=0", 1);
    may("c=34", 1);
    may("o=56", 1);
    may("g=78", 1);
    may("m=12", 1);
    may("h=0", 1);
    may("k=2", 1);
    may("r=0", 1);
    may("b=3", 1);
    NoSummer x = Check.world(2, 1, 1);
    x.holder(1, 0, 10);
    Check.law(x, "p=23");
    Check.law(x, "p=20");
    Check.law(x, "p=0");
    Check.law(x, "c+o+g+m+h+k=0");
    Check.law(x, "h=10&w=1&k=1");
    Check.law(x, "w=1");
    x.go(1);
    c.due(16, "price of the holder's district", x.may(0, 1, 0), 1);
    c.due(16, "of the land's first district", x.may(1, 1, -1), 1);
    c.due(16, "of another land's", x.may(0, 2, -1), 1);
    c.due(16, "of a land without", x.may(2, 3, -1), 1);
    c.due(16, "without a holder", x.may(3, 2, -1), 1);
    c.due(16, "hungry now", x.may(4, 0, 0), 1);
    x.go(26);
    x.go(26);
    c.due(16, "the season of week 53", x.may(5, 0, -1), 1);
  }

  private static void kinds() {
    NoSummer x = Check.world(0);
    for (int kind = 0; kind < 6; kind++) {
      x.holder(kind, 0, 0);
      x.row(0, 0, 3);
      x.put(0, 0, 'k');
      x.put(0, 1, '=');
      x.put(0, 2, '0' + kind);
      c.due(14, "its number", x.law(0), kind);
      c.due(16, "kind " + kind, x.may(kind, 0, kind), 1);
      c.due(16, "another kind", x.may(kind, 0, kind == 0 ? -1 : 0), kind == 0 ? 1 : 0);
    }
  }

  private static void mayRefusals() {
    NoSummer x = Check.world(0);
    x.holder(1, 0, 1);
    Check.law(x, "1=1");
    c.due(16, "it holds", x.may(0, 0, 0), 1);
    c.due(16, "no law", x.may(1, 0, 0), -1);
    c.due(16, "no law", x.may(-1, 0, 0), -1);
    c.due(16, "no land", x.may(0, 4, 0), -1);
    c.due(16, "no land", x.may(0, -1, 0), -1);
    c.due(16, "no holder", x.may(0, 0, 1), -1);
    c.due(16, "no holder", x.may(0, 0, -2), -1);
  }

  private static void shut() {
    NoSummer x = Check.world(0, 1);
    Check.law(x, "w>1");
    Check.law(x, "r>0");
    Check.law(x, "r=2&b=2");
    x.force(0, 0, 0);
    x.force(1, 0, 1);
    x.force(2, 0, 2);
    c.due(17, "not yet", x.shut(0), 0);
    c.due(17, "no law", x.shut(3), 0);
    x.go(2);
    c.due(17, "now", x.shut(0), 1);
    c.due(17, "not behind it yet", x.shut(1), 0);
    x.go(1);
    c.due(17, "behind it", x.shut(1), 1);
    c.due(17, "not behind both yet", x.shut(2), 0);
    c.due(17, "asking changes nothing", x.record(2, 12), 1);
    x.go(1);
    c.due(17, "behind both", x.shut(2), 1);
    c.due(17, "no land", x.shut(4), -1);
    c.due(17, "no land", x.shut(-1), -1);
    x.force(0, 0, -1);
    c.due(17, "without its law", x.shut(0), 0);
  }
}
