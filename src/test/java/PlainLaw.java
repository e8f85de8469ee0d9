/** A law's text, read another way than the program does: by states and by cutting it at signs. */
final class PlainLaw {
  private static final int TEST_WANTED = 0;
  private static final int FIRST_ATOM_WANTED = 1;
  private static final int BEHIND_FIRST_ATOM = 2;
  private static final int SECOND_ATOM_WANTED = 3;
  private static final int BEHIND_SECOND_ATOM = 4;
  private static final int BEHIND_BRACKETS = 5;
  /** No state: no law can go on so. */
  private static final int NO_WAY = -1;

  private int state = TEST_WANTED;
  private int depth = 0;
  /** How many digits the number has that ends here; 0 behind a field. */
  private int digits = 0;
  private boolean zero = false;

  private PlainLaw() {
  }

  /** The fault of a text; -4: it is a law. */
  static int fault(int[] text) {
    PlainLaw read = new PlainLaw();
    for (int i = 0; i < text.length; i++) {
      read.state = read.next(text[i] > 0 ? (char) text[i] : 'x');
      if (read.state == NO_WAY) {
        return i;
      }
    }
    boolean whole = read.state == BEHIND_SECOND_ATOM || read.state == BEHIND_BRACKETS;
    return whole && read.depth == 0 ? -4 : text.length;
  }

  private int next(char sign) {
    switch (state) {
      case TEST_WANTED:
        return atTest(sign);
      case FIRST_ATOM_WANTED:
      case SECOND_ATOM_WANTED:
        return atom(sign, state + 1);
      case BEHIND_FIRST_ATOM:
        return isDigit(sign) ? oneDigitMore()
            : isOneOf(sign, "+-") ? FIRST_ATOM_WANTED
            : isOneOf(sign, "<>=") ? SECOND_ATOM_WANTED : NO_WAY;
      case BEHIND_SECOND_ATOM:
        return isDigit(sign) ? oneDigitMore()
            : isOneOf(sign, "+-") ? SECOND_ATOM_WANTED : behindTest(sign);
      default:
        return behindTest(sign);
    }
  }

  private int atTest(char sign) {
    if (sign == '!') {
      return TEST_WANTED;
    }
    if (sign == '(' && depth < 8) {
      depth++;
      return TEST_WANTED;
    }
    return atom(sign, BEHIND_FIRST_ATOM);
  }

  private int atom(char sign, int then) {
    digits = isDigit(sign) ? 1 : 0;
    zero = sign == '0';
    return isDigit(sign) || isOneOf(sign, "pwcogmhkrb") ? then : NO_WAY;
  }

  private int oneDigitMore() {
    boolean may = digits > 0 && digits < 4 && !zero;
    digits++;
    return may ? state : NO_WAY;
  }

  private int behindTest(char sign) {
    if (sign == ')' && depth > 0) {
      depth--;
      return BEHIND_BRACKETS;
    }
    return isOneOf(sign, "&|") ? TEST_WANTED : NO_WAY;
  }

  private static boolean isDigit(char sign) {
    return sign >= '0' && sign <= '9';
  }

  private static boolean isOneOf(char sign, String signs) {
    return signs.indexOf(sign) >= 0;
  }

  /** Whether a law holds, its fields told in the order p w c o g m h k r b. */
  static boolean holds(String law, int[] fields) {
    int or = lastOutside(law, '|');
    if (or >= 0) {
      return holds(law.substring(0, or), fields) | holds(law.substring(or + 1), fields);
    }
    int and = lastOutside(law, '&');
    if (and >= 0) {
      return holds(law.substring(0, and), fields) & holds(law.substring(and + 1), fields);
    }
    if (law.charAt(0) == '!') {
      return !holds(law.substring(1), fields);
    }
    if (law.charAt(0) == '(') {
      return holds(law.substring(1, law.length() - 1), fields);
    }
    return compares(law, fields);
  }

  /** The last place of a sign outside of brackets, or -1. */
  private static int lastOutside(String law, char sign) {
    int open = 0;
    for (int i = law.length() - 1; i >= 0; i--) {
      char c = law.charAt(i);
      open += c == ')' ? 1 : c == '(' ? -1 : 0;
      if (open == 0 && c == sign) {
        return i;
      }
    }
    return -1;
  }

  private static boolean compares(String law, int[] fields) {
    String[] sums = law.split("[<>=]");
    int a = sum(sums[0], fields);
    int b = sum(sums[1], fields);
    char sign = law.charAt(sums[0].length());
    return sign == '<' ? a < b : sign == '>' ? a > b : a == b;
  }

  private static int sum(String sum, int[] fields) {
    int all = 0;
    for (String part : sum.split("(?=[+-])")) {
      boolean less = part.charAt(0) == '-';
      String atom = less || part.charAt(0) == '+' ? part.substring(1) : part;
      int value = isDigit(atom.charAt(0)) ? Integer.parseInt(atom)
          : fields["pwcogmhkrb".indexOf(atom.charAt(0))];
      all += less ? -value : value;
    }
    return all;
  }
}
