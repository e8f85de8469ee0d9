import java.util.Arrays;

/**
 * A year without a summer: lands, districts and holders whose corn, coin and
 * mouths go by weeks under told weather and told laws.
 */
public final class NoSummer {
  private static final int NO_SUCH = -1;
  private static final int NO_ROOM = -2;
  private static final int NOT_NOW = -3;
  private static final int NONE = -4;
  private static final int FAULTY = -100;
  private static final int EMPTY = -11;
  private static final int OTHER_KIND = -12;
  private static final int NO_PLACE = -13;
  private static final int BELOW_NOTHING = -14;
  private static final int NO_FAILURE = -15;

  private static final int LANDS = 4;
  private static final int DISTRICTS = 10;
  private static final int HOLDERS = 30;
  private static final int LAWS = 20;
  private static final int CARTS = 12;
  private static final int SHELVES = 8;
  private static final int WEEKS = 156;
  private static final int SEASONS = 52;
  private static final int FIRST_PRICE = 20;
  private static final int MOST = 99999;
  private static final int MOST_HORSES = 999;
  private static final int MOST_MOUTHS = 999;
  private static final int MOST_ELEMENTS = 160;

  private static final int FARM = 0;
  private static final int TOWN = 1;
  private static final int DEALER = 2;
  private static final int STORE = 3;
  private static final int SHIP = 4;
  private static final int WALKER = 5;

  private static final int PURPOSES = 4;
  private static final int SHUT = 0;
  private static final int RELIEF = 1;
  private static final int SELL = 2;
  private static final int LET = 3;

  /** The parts of a cart, as they lie one behind the other. */
  private static final int CART_PARTS = 5;
  private static final int CART_DEALER = 0;
  private static final int CART_DISTRICT = 1;
  private static final int CART_CORN = 2;
  private static final int CART_HORSES = 3;
  private static final int CART_LEAGUES = 4;

  /** A week's record: the prices by districts, then these. */
  private static final int RECORD_PARTS = 14;
  private static final int RECORD_HUNGRY = 10;
  private static final int RECORD_DEAD = 11;
  private static final int RECORD_SHUT = 12;
  private static final int RECORD_DISTRICTS = 13;

  private static final int FLEET = 5;
  private static final int MOST_LISTED = 3;
  /** A ship keeps its goal or goes to one of those listed. */
  private static final int CHOICES = 1 + MOST_LISTED;
  private static final int TURNINGS = CHOICES * CHOICES * CHOICES * CHOICES * CHOICES;
  private static final int MOST_IN_MIND = 30;
  private static final int MOST_WORD = 30;
  private static final int ACTS = 8;
  private static final int COLDER = 3;

  private final World world = new World();
  private final World image = new World();
  private final World mind = new World();
  private final Week weekOfWorld = new Week(world);
  private final Week weekInMind = new Week(mind);
  private boolean imaged = false;
  private final Holder[] shelvedHolders = new Holder[SHELVES];
  private final Row[] shelvedRows = new Row[SHELVES];

  public NoSummer() {
  }

  // ---- the map

  public int district(int land, int height) {
    if (!isLand(land) || !within(height, 0, 9)) {
      return NO_SUCH;
    }
    return world.addsDistrict(land, height);
  }

  public int road(int a, int b, int leagues) {
    if (!world.hasDistrict(a) || !world.hasDistrict(b) || a == b || !within(leagues, 0, 30)) {
      return NO_SUCH;
    }
    return world.laysRoad(a, b, leagues);
  }

  public int far(int a, int b) {
    if (!world.hasDistrict(a) || !world.hasDistrict(b)) {
      return NO_SUCH;
    }
    return world.way(a, b);
  }

  public int weather(int land, int d, boolean wet) {
    if (!isLand(land)) {
      return NO_SUCH;
    }
    Row row = rowOn(d);
    if (row == null) {
      return shelfRefusal(d);
    }
    world.turnsWeather(land, row.copied(), wet);
    return row.size();
  }

  public long sky(int land, int week, boolean wet) throws IllegalArgumentException {
    if (!isLand(land) || !within(week, 0, WEEKS)) {
      throw new IllegalArgumentException("no such land or week");
    }
    return world.weatherIn(wet ? world.wet : world.warm, land, week);
  }

  public int price(int district) {
    return world.hasDistrict(district) ? at(world.prices, district) : NO_SUCH;
  }

  // ---- holders

  public int holder(int kind, int district, int mouths) {
    if (!within(kind, FARM, WALKER) || !world.hasDistrict(district)
        || !within(mouths, 0, MOST_MOUTHS)) {
      return NO_SUCH;
    }
    if (world.holderCount >= HOLDERS) {
      return NO_ROOM;
    }
    Holder h = newHolder(kind);
    h.place = district;
    h.mouths = mouths;
    return world.addsHolder(h);
  }

  public int gives(int holder, int what, int n) {
    Holder h = world.holderAt(holder);
    if (h == null || !within(what, 0, 3) || !within(n, 1, 9999)) {
      return NO_SUCH;
    }
    return h.given(what, n);
  }

  public int field(int holder, int n) {
    Holder h = world.holderAt(holder);
    if (h == null || !within(n, 0, 999)) {
      return NO_SUCH;
    }
    if (h instanceof Farm farm) {
      int before = farm.field;
      farm.field = n;
      return before;
    }
    return NOT_NOW;
  }

  public int goal(int holder, int district, int weeks) {
    Holder h = world.holderAt(holder);
    if (h == null || !world.hasDistrict(district) || !within(weeks, 0, 30)
        || h instanceof Walker && weeks != 0) {
      return NO_SUCH;
    }
    if (h instanceof Ship ship) {
      ship.goal = district;
      ship.weeks = weeks;
      return 1;
    }
    if (h instanceof Walker walker) {
      walker.aim = district;
      return 1;
    }
    return NOT_NOW;
  }

  public int about(int holder, int what) {
    Holder h = world.holderAt(holder);
    if (h == null || !within(what, 0, 15)) {
      return NO_SUCH;
    }
    return h.told(what);
  }

  // ---- laws

  public int fault(int d) {
    Row text = byteRowOn(d);
    if (text == null) {
      return shelfRefusal(d);
    }
    return new Law(text.elements).reads();
  }

  public int law(int d) {
    if (!isShelf(d)) {
      return NO_SUCH;
    }
    if (world.lawCount >= LAWS) {
      return NO_ROOM;
    }
    Row text = byteRowOn(d);
    if (text == null) {
      return shelfRefusal(d);
    }
    Law told = new Law(text.elements);
    int fault = told.reads();
    return fault == NONE ? world.addsLaw(told) : FAULTY - fault;
  }

  public int force(int land, int purpose, int law) {
    if (!isLand(land) || !isPurpose(purpose) || !isLawOrNone(law)) {
      return NO_SUCH;
    }
    int before = world.lawInForce(land, purpose);
    world.enforces(land, purpose, law);
    return before < 0 ? NONE : before;
  }

  public int may(int law, int land, int holder) {
    Law asked = world.lawAt(law);
    Holder h = world.holderAt(holder);
    if (asked == null || !isLand(land) || h == null && holder != -1) {
      return NO_SUCH;
    }
    world.tellsFields(land, h);
    return asked.holds(world.fields) ? 1 : 0;
  }

  public int shut(int land) {
    if (!isLand(land)) {
      return NO_SUCH;
    }
    return world.allows(SHUT, land, null, false) ? 1 : 0;
  }

  // ---- weeks

  public int go(int n) {
    if (!within(n, 1, 26)) {
      return NO_SUCH;
    }
    if (world.now + n > WEEKS) {
      return NO_ROOM;
    }
    int hungry = 0;
    for (int i = 0; i < n; i++) {
      hungry = weekOfWorld.passes();
    }
    return hungry;
  }

  public int record(int week, int what) {
    if (!within(week, 0, WEEKS) || !within(what, 0, RECORD_SHUT)
        || what < DISTRICTS && !world.hasDistrict(what)) {
      return NO_SUCH;
    }
    if (week >= world.now) {
      return NOT_NOW;
    }
    if (what < DISTRICTS && what >= world.recorded(week, RECORD_DISTRICTS)) {
      return NO_SUCH;
    }
    return world.recorded(week, what);
  }

  public int read(int in, int of) {
    if (!world.hasDistrict(in) || !world.hasDistrict(of)) {
      return NO_SUCH;
    }
    int leagues = world.way(in, of);
    return leagues < 0 ? NOT_NOW : world.priceAsRead(of, leagues);
  }

  public int sends(int holder) {
    Holder h = world.holderAt(holder);
    if (h == null) {
      return NO_SUCH;
    }
    return h.kind() == DEALER ? world.bestMarket(h.place) : NOT_NOW;
  }

  public int cart(int i, int what) {
    if (!within(i, 0, world.cartCount - 1) || !within(what, 0, CART_PARTS - 1)) {
      return NO_SUCH;
    }
    return world.cartPart(i, what);
  }

  public int brings(int a, int b, int h) {
    if (!world.hasDistrict(a) || !world.hasDistrict(b) || !within(h, 1, 99)) {
      return NO_SUCH;
    }
    int leagues = world.way(a, b);
    return leagues < 0 ? NOT_NOW : Math.max(0, 10 * h - tenthUp(h * leagues));
  }

  // ---- relief, ships, acts

  public int relief(int holder, int n) {
    Holder h = world.holderAt(holder);
    if (h == null || !within(n, 1, 9999)) {
      return NO_SUCH;
    }
    if (h.kind() != STORE || h.coin < n) {
      return NOT_NOW;
    }
    return relieves(h, n);
  }

  public int coin(int district, int n, int as) {
    if (!world.hasDistrict(district) || !within(n, 1, 9999) || !within(as, 0, 2)) {
      return NO_SUCH;
    }
    if (as == 1) {
      return n / 3;
    }
    int price = at(world.prices, district);
    int bread = price > 0 ? 10 * n / price : 0;
    return as == 0 ? bread : 6 * bread;
  }

  public int turn(int ship, int district, int word) {
    Ship sailing = world.shipAt(ship);
    if (sailing == null || !world.hasDistrict(district) || !isWord(word)) {
      return NO_SUCH;
    }
    int leagues = world.way(sailing.goal, district);
    if (sailing.weeks <= word || leagues < 0) {
      return NOT_NOW;
    }
    sailing.goal = district;
    sailing.weeks += leagues / 10;
    return sailing.weeks;
  }

  public int turning(int d, int word) {
    if (!isWord(word)) {
      return NO_SUCH;
    }
    Row list = byteRowOn(d);
    if (list == null) {
      return shelfRefusal(d);
    }
    if (!listsDistricts(list)) {
      return NO_PLACE;
    }
    return choosesGoals(shipsOnTheirWay(), list, word, new int[FLEET]);
  }

  public int turned(int d, int word, int ship) {
    if (!isShelf(d) || !isWord(word) || world.shipAt(ship) == null) {
      return NO_SUCH;
    }
    int[] fleet = shipsOnTheirWay();
    int rank = placeOf(fleet, ship);
    if (rank < 0) {
      return NONE;
    }
    Row list = byteRowOn(d);
    if (list == null) {
      return shelfRefusal(d);
    }
    if (!listsDistricts(list)) {
      return NO_PLACE;
    }
    int[] goals = new int[FLEET];
    choosesGoals(fleet, list, word, goals);
    return at(goals, rank);
  }

  public int behind(int land, int n) {
    if (!isLand(land) || !within(n, 1, MOST_IN_MIND)) {
      return NO_SUCH;
    }
    if (world.now + n > WEEKS) {
      return NO_ROOM;
    }
    int own = 1 << land;
    return shutAfter(n, own, 0) & ~shutAfter(n, 0, own) & ~own;
  }

  public int worst(int land, int purpose, int law, int n) {
    if (!isLand(land) || !isPurpose(purpose) || !isLawOrNone(law)
        || !within(n, 1, MOST_IN_MIND)) {
      return NO_SUCH;
    }
    if (world.now + n > WEEKS) {
      return NO_ROOM;
    }
    return worstOf(land, purpose, law, n);
  }

  public int best(int land, int purpose, int n) {
    if (!isLand(land) || !isPurpose(purpose) || !within(n, 1, MOST_IN_MIND)) {
      return NO_SUCH;
    }
    if (world.now + n > WEEKS) {
      return NO_ROOM;
    }
    int chosen = NONE;
    int least = worstOf(land, purpose, -1, n);
    for (int law = 0; law < ACTS && law < world.lawCount; law++) {
      int worst = worstOf(land, purpose, law, n);
      if (worst < least) {
        least = worst;
        chosen = law;
      }
    }
    return chosen;
  }

  // ---- the image, what is told

  public int image() {
    image.becomes(world);
    imaged = true;
    return world.now;
  }

  public int restore() {
    if (!imaged) {
      return NOT_NOW;
    }
    world.becomes(image);
    return world.now;
  }

  public int count(int what) {
    switch (what) {
      case 0: return world.districts;
      case 1: return world.holderCount;
      case 2: return world.lawCount;
      case 3: return world.now;
      case 4: return world.cartCount;
      case 5: return world.sum(2) + world.sum(11) + world.sumOfCarts(CART_CORN);
      case 6: return world.sum(3);
      case 7: return world.sum(4);
      case 8: return world.sum(5) + world.sumOfCarts(CART_HORSES);
      case 9: return world.sum(6);
      case 10: return world.sum(15);
      default: return NO_SUCH;
    }
  }

  // ---- shelves

  public int keep(int d, int what, int k) {
    if (!isShelf(d) || !within(what, 0, 1)) {
      return NO_SUCH;
    }
    if (what == 0) {
      shelves(d, null, null);
      return 0;
    }
    Holder h = world.holderAt(k);
    if (h == null) {
      return NO_SUCH;
    }
    Holder asThen = newHolder(h.kind());
    asThen.becomes(h);
    shelves(d, asThen, null);
    return 0;
  }

  public int row(int d, int sort, int n) {
    if (!isShelf(d) || !within(sort, Row.BYTES, Row.INTS) || n > MOST_ELEMENTS) {
      return NO_SUCH;
    }
    if (n < 0) {
      return BELOW_NOTHING;
    }
    shelves(d, null, new Row(sort, n));
    return 0;
  }

  public int put(int d, int i, int v) {
    Row row = rowOn(d);
    if (row == null) {
      return shelfRefusal(d);
    }
    if (!row.hasSpan(i, 1)) {
      return NO_PLACE;
    }
    row.puts(i, v);
    return 0;
  }

  public long element(int d, int i) throws IllegalArgumentException, IllegalStateException {
    if (!isShelf(d)) {
      throw new IllegalArgumentException("no such shelf");
    }
    Row row = rowOn(d);
    if (row == null || !row.hasSpan(i, 1)) {
      throw new IllegalStateException("no row, or no such place");
    }
    return at(row.elements, i);
  }

  public int copy(int d, int i, int e, int j, int n) {
    if (!isShelf(d) || !isShelf(e)) {
      return NO_SUCH;
    }
    if (holdsNothing(d) || holdsNothing(e)) {
      return EMPTY;
    }
    Row from = rowOn(d);
    Row to = rowOn(e);
    if (from == null || to == null || from.sort != to.sort) {
      return OTHER_KIND;
    }
    if (!from.hasSpan(i, n) || !to.hasSpan(j, n)) {
      return NO_PLACE;
    }
    System.arraycopy(from.elements, i, to.elements, j, n);
    return n;
  }

  public int weight(int d) {
    Holder h = shelvedHolder(d);
    return h == null ? shelfRefusal(d) : h.weighs();
  }

  public int toss(int d) {
    Holder h = shelvedHolder(d);
    if (h == null) {
      return shelfRefusal(d);
    }
    try {
      h.fails();
    } catch (UnsupportedOperationException e) {
      return h.place + 100;
    } catch (IllegalStateException e) {
      return h.place;
    }
    return NO_FAILURE;
  }

  // ---- what the calls share

  private static boolean within(int v, int least, int most) {
    return v >= least && v <= most;
  }

  private static int at(int[] row, int i) {
    return i >= 0 && i < row.length ? row[i] : 0;
  }

  private static void set(int[] row, int i, int v) {
    if (i >= 0 && i < row.length) {
      row[i] = v;
    }
  }

  private static int tenthUp(int n) {
    return (n + 9) / 10;
  }

  private static boolean isLand(int land) {
    return within(land, 0, LANDS - 1);
  }

  private static boolean isPurpose(int purpose) {
    return within(purpose, 0, PURPOSES - 1);
  }

  private static boolean isWord(int word) {
    return within(word, 0, MOST_WORD);
  }

  private static boolean isShelf(int d) {
    return within(d, 0, SHELVES - 1);
  }

  private boolean isLawOrNone(int law) {
    return within(law, -1, world.lawCount - 1);
  }

  private static Holder newHolder(int kind) {
    switch (kind) {
      case FARM: return new Farm();
      case TOWN: return new Town();
      case DEALER: return new Dealer();
      case STORE: return new Store();
      case SHIP: return new Ship();
      default: return new Walker();
    }
  }

  private void shelves(int d, Holder h, Row row) {
    if (d >= 0 && d < shelvedHolders.length && d < shelvedRows.length) {
      shelvedHolders[d] = h;
      shelvedRows[d] = row;
    }
  }

  private Holder shelvedHolder(int d) {
    return d >= 0 && d < shelvedHolders.length ? shelvedHolders[d] : null;
  }

  private Row rowOn(int d) {
    return d >= 0 && d < shelvedRows.length ? shelvedRows[d] : null;
  }

  private Row byteRowOn(int d) {
    Row row = rowOn(d);
    return row != null && row.sort == Row.BYTES ? row : null;
  }

  private boolean holdsNothing(int d) {
    return shelvedHolder(d) == null && rowOn(d) == null;
  }

  /** Why a shelf has not what was wanted of it. */
  private int shelfRefusal(int d) {
    if (!isShelf(d)) {
      return NO_SUCH;
    }
    return holdsNothing(d) ? EMPTY : OTHER_KIND;
  }

  // ---- relief

  private int relieves(Holder store, int n) {
    int land = world.landOf(store);
    boolean[] done = new boolean[HOLDERS];
    int left = n;
    int relieved = 0;
    for (int i = 0; i < HOLDERS && left >= 10; i++) {
      int next = nextInNeed(land, done);
      Holder town = world.holderAt(next);
      if (town == null || next < 0 || next >= done.length) {
        return relieved;
      }
      done[next] = true;
      int mouths = Math.min(town.hungry, left / 10);
      left -= 10 * mouths;
      store.coin -= 10 * mouths;
      town.earns(10 * mouths);
      relieved += mouths;
    }
    return relieved;
  }

  /** The hungriest town that relief is for and that had none yet, or -1. */
  private int nextInNeed(int land, boolean[] done) {
    int next = -1;
    int most = 0;
    for (int i = 0; i < done.length; i++) {
      Holder h = world.holderAt(i);
      if (h instanceof Town && !done[i] && h.hungry > most && world.landOf(h) == land
          && world.allows(RELIEF, land, h, true)) {
        next = i;
        most = h.hungry;
      }
    }
    return next;
  }

  // ---- ships that may be turned

  private boolean listsDistricts(Row list) {
    if (!within(list.size(), 1, MOST_LISTED)) {
      return false;
    }
    for (int district : list.elements) {
      if (!world.hasDistrict(district)) {
        return false;
      }
    }
    return true;
  }

  /** The numbers of the first ships that have weeks to go, -1 behind the last. */
  private int[] shipsOnTheirWay() {
    int[] fleet = new int[FLEET];
    Arrays.fill(fleet, -1);
    int found = 0;
    for (int i = 0; i < HOLDERS && found < FLEET; i++) {
      Ship ship = world.shipAt(i);
      if (ship != null && ship.weeks > 0) {
        set(fleet, found, i);
        found++;
      }
    }
    return fleet;
  }

  private static int placeOf(int[] row, int v) {
    for (int i = 0; i < row.length; i++) {
      if (row[i] == v) {
        return i;
      }
    }
    return -1;
  }

  /** Puts the goals by which most are served into a row; how much that is. */
  private int choosesGoals(int[] fleet, Row list, int word, int[] goals) {
    int[] tried = new int[FLEET];
    int[] wanted = world.wantedByTowns();
    int[] brought = new int[DISTRICTS];
    int most = -1;
    // The first ship's choice counts most in the number of a turning, and to
    // keep its goal is choice 0: so of several the first one found is due.
    for (int turning = 0; turning < TURNINGS; turning++) {
      if (triesGoals(fleet, list, word, turning, tried)) {
        int served = servedBy(fleet, tried, wanted, brought);
        if (served > most) {
          most = served;
          System.arraycopy(tried, 0, goals, 0, Math.min(tried.length, goals.length));
        }
      }
    }
    return most;
  }

  /** Tells the goals of a turning by its number; false if a ship can't be turned so. */
  private boolean triesGoals(int[] fleet, Row list, int word, int turning, int[] tried) {
    int choices = turning;
    for (int i = FLEET - 1; i >= 0; i--) {
      int choice = choices % CHOICES;
      choices /= CHOICES;
      Ship ship = world.shipAt(at(fleet, i));
      if (choice > 0 && (ship == null || ship.weeks <= word || choice > list.size())) {
        return false;
      }
      int kept = ship == null ? NONE : ship.goal;
      set(tried, i, choice == 0 ? kept : list.value(choice - 1));
    }
    return true;
  }

  private int servedBy(int[] fleet, int[] goals, int[] wanted, int[] brought) {
    Arrays.fill(brought, 0);
    for (int i = 0; i < FLEET; i++) {
      Ship ship = world.shipAt(at(fleet, i));
      if (ship != null) {
        set(brought, at(goals, i), at(brought, at(goals, i)) + ship.corn);
      }
    }
    int all = 0;
    for (int d = 0; d < DISTRICTS; d++) {
      all += Math.min(at(brought, d), at(wanted, d));
    }
    return all;
  }

  // ---- weeks that go by in mind

  /** The bits of the lands shut in the last of n weeks in mind. */
  private int shutAfter(int n, int closed, int opened) {
    mind.becomes(world);
    weekInMind.passesUnder(0, closed, opened);
    for (int i = 0; i < n; i++) {
      weekInMind.passes();
    }
    return mind.shutBits;
  }

  private int worstOf(int land, int purpose, int law, int n) {
    int worst = 0;
    for (int cold = 0; cold <= COLDER; cold += COLDER) {
      mind.becomes(world);
      mind.enforces(land, purpose, law);
      weekInMind.passesUnder(cold, 0, 0);
      for (int i = 0; i < n; i++) {
        worst = Math.max(worst, weekInMind.passes());
      }
    }
    return worst;
  }

  // ---- holders

  private abstract static class Holder {
    int place = 0;
    int corn = 0;
    int oats = 0;
    int coin = 0;
    int horses = 0;
    int mouths = 0;
    int hungry = 0;
    int ill = 0;
    int died = 0;

    abstract int kind();

    int need() {
      return mouths;
    }

    int keeps() {
      return 4 * need();
    }

    /** Whether its corn lies in a district: a ship at sea has none there. */
    boolean liesIn(int district) {
      return place == district;
    }

    boolean trades() {
      return false;
    }

    boolean buys() {
      return false;
    }

    int weighs() {
      return 100 + need() + horses;
    }

    void fails() {
      throw new IllegalStateException("a holder fails");
    }

    int surplus() {
      return Math.max(0, corn - keeps());
    }

    int told(int what) {
      switch (what) {
        case 0: return kind();
        case 1: return place;
        case 2: return corn;
        case 3: return oats;
        case 4: return coin;
        case 5: return horses;
        case 6: return mouths;
        case 7: return hungry;
        case 8: return ill;
        case 9: return need();
        case 10: return keeps();
        case 14: return NONE;
        case 15: return died;
        default: return 0;
      }
    }

    /** What is given comes to it; -2 and no change where there is no room. */
    int given(int what, int n) {
      int then = n + told(what + 2);
      if (then > (what == 3 ? MOST_HORSES : MOST)) {
        return NO_ROOM;
      }
      switch (what) {
        case 0: corn = then; break;
        case 1: oats = then; break;
        case 2: coin = then; break;
        default: horses = then; break;
      }
      return then;
    }

    void stores(int n) {
      corn = Math.min(MOST, corn + n);
    }

    void earns(int n) {
      coin = Math.min(MOST, coin + n);
    }

    /** Some of its need is lacking, so some of its mouths are hungry. */
    void lacks(int lack) {
      if (mouths <= 0) {
        hungry = 0;
        return;
      }
      int each = Math.max(1, (need() + mouths - 1) / mouths);
      hungry = Math.min(mouths, each > 0 ? (lack + each - 1) / each : 0);
    }

    void feedsHorses() {
      int fed = Math.min(horses, oats);
      oats -= fed;
      horses -= (horses - fed) / 2;
    }

    void sickens() {
      ill = hungry > 0 ? Math.min(mouths, ill + hungry / 4) : ill / 2;
      int dead = ill / 8;
      ill -= dead;
      mouths -= dead;
      died += dead;
    }

    void becomes(Holder other) {
      place = other.place;
      corn = other.corn;
      oats = other.oats;
      coin = other.coin;
      horses = other.horses;
      mouths = other.mouths;
      hungry = other.hungry;
      ill = other.ill;
      died = other.died;
    }
  }

  private static final class Farm extends Holder {
    int field = 0;
    int sown = 0;
    int growth = 0;

    int kind() {
      return FARM;
    }

    int need() {
      return mouths + mouths / 2;
    }

    int keeps() {
      return 4 * need() + 8 * field;
    }

    boolean trades() {
      return true;
    }

    int weighs() {
      return super.weighs() + field;
    }

    void fails() {
    }

    int told(int what) {
      return what == 11 ? sown : what == 12 ? growth : super.told(what);
    }

    void sows() {
      sown = Math.min(corn, field);
      corn -= sown;
      growth = 0;
    }

    void reaps() {
      stores(Math.min(12 * sown, Math.max(0, sown * growth / 20)));
      sown = 0;
    }

    void growsOats() {
      oats = Math.min(MOST, oats + field / 4);
    }

    void becomes(Holder other) {
      super.becomes(other);
      if (other instanceof Farm farm) {
        field = farm.field;
        sown = farm.sown;
        growth = farm.growth;
      }
    }
  }

  private static final class Town extends Holder {
    int kind() {
      return TOWN;
    }

    boolean buys() {
      return true;
    }
  }

  private static class Dealer extends Holder {
    int kind() {
      return DEALER;
    }

    int keeps() {
      return 0;
    }

    boolean trades() {
      return true;
    }

    int weighs() {
      return super.weighs() + 200;
    }
  }

  private static final class Store extends Dealer {
    int kind() {
      return STORE;
    }

    int need() {
      return 0;
    }

    int keeps() {
      return 100;
    }

    void fails() {
      throw new UnsupportedOperationException("a store fails");
    }
  }

  private static final class Ship extends Dealer {
    int goal = NONE;
    int weeks = 0;

    int kind() {
      return SHIP;
    }

    int need() {
      return mouths / 2;
    }

    boolean liesIn(int district) {
      return weeks == 0 && place == district;
    }

    int weighs() {
      return 2 * super.weighs();
    }

    void fails() {
      if (weeks == 0) {
        throw new IllegalStateException("a ship fails");
      }
    }

    int told(int what) {
      return what == 13 ? weeks : what == 14 ? goal : super.told(what);
    }

    void sails() {
      if (weeks > 0) {
        weeks--;
        place = weeks == 0 ? goal : place;
      }
    }

    void becomes(Holder other) {
      super.becomes(other);
      if (other instanceof Ship ship) {
        goal = ship.goal;
        weeks = ship.weeks;
      }
    }
  }

  private static final class Walker extends Holder {
    int aim = NONE;

    int kind() {
      return WALKER;
    }

    int need() {
      return mouths / 2;
    }

    boolean buys() {
      return true;
    }

    int weighs() {
      return super.weighs() + Math.max(0, aim);
    }

    int told(int what) {
      return what == 14 ? aim : super.told(what);
    }

    void becomes(Holder other) {
      super.becomes(other);
      if (other instanceof Walker walker) {
        aim = walker.aim;
      }
    }
  }

  /** A row of bytes, shorts or ints, as its sort says. */
  private static final class Row {
    static final int BYTES = 0;
    static final int SHORTS = 1;
    static final int INTS = 2;

    final int sort;
    final int[] elements;

    Row(int sort, int size) {
      this.sort = sort;
      this.elements = new int[Math.max(0, Math.min(size, MOST_ELEMENTS))];
    }

    int size() {
      return elements.length;
    }

    int value(int i) {
      return i >= 0 && i < elements.length ? elements[i] : 0;
    }

    boolean hasSpan(int i, int n) {
      return i >= 0 && n >= 0 && n <= elements.length && i <= elements.length - n;
    }

    void puts(int i, int v) {
      set(elements, i, sort == BYTES ? (byte) v : sort == SHORTS ? (short) v : v);
    }

    /** Whether the least number of the sort stands there. */
    boolean isMissing(int i) {
      int least = sort == BYTES ? -128 : sort == SHORTS ? -32768 : -2147483648;
      return i >= 0 && i < elements.length && elements[i] == least;
    }

    Row copied() {
      Row copy = new Row(sort, elements.length);
      System.arraycopy(elements, 0, copy.elements, 0,
          Math.min(elements.length, copy.elements.length));
      return copy;
    }
  }

  /** A law: its text is read once into steps that work on a stack. */
  private static final class Law {
    private static final String FIELDS = "pwcogmhkrb";
    private static final int DEEPEST = 8;
    private static final int STACK = 32;
    /** No byte: the text has ended. */
    private static final int END = 256;
    /** Steps from here on are signs; below are numbers, below 0 fields. */
    private static final int SIGNS = 10000;

    private final int[] text;
    private final int[] steps;
    private final int[] stack = new int[STACK];
    private int size = 0;
    private int place = 0;
    private boolean broken = false;

    Law(int[] text) {
      this.text = text;
      this.steps = new int[text.length];
    }

    /** The place of the first byte with which no law can go on, or none. */
    int reads() {
      size = 0;
      place = 0;
      broken = false;
      readsOr(0);
      return broken || place < text.length ? place : NONE;
    }

    private int seen() {
      return place >= 0 && place < text.length ? text[place] : END;
    }

    private boolean takes(int sign) {
      if (broken || seen() != sign) {
        return false;
      }
      place++;
      return true;
    }

    private void emits(int step) {
      if (size >= 0 && size < steps.length) {
        steps[size] = step;
        size++;
      }
    }

    private void readsOr(int depth) {
      readsAnd(depth);
      for (int i = 0; i < text.length && takes('|'); i++) {
        readsAnd(depth);
        emits(SIGNS + '|');
      }
    }

    private void readsAnd(int depth) {
      readsTest(depth);
      for (int i = 0; i < text.length && takes('&'); i++) {
        readsTest(depth);
        emits(SIGNS + '&');
      }
    }

    private void readsTest(int depth) {
      boolean negated = false;
      for (int i = 0; i < text.length && takes('!'); i++) {
        negated = !negated;
      }
      if (depth < DEEPEST && takes('(')) {
        readsOr(depth + 1);
        broken = !takes(')');
      } else {
        readsComparison();
      }
      if (negated) {
        emits(SIGNS + '!');
      }
    }

    private void readsComparison() {
      readsSum();
      int sign = seen();
      if (!takes('<') && !takes('>') && !takes('=')) {
        broken = true;
        return;
      }
      readsSum();
      emits(SIGNS + sign);
    }

    private void readsSum() {
      readsAtom();
      for (int i = 0; i < text.length; i++) {
        int sign = seen();
        if (!takes('+') && !takes('-')) {
          return;
        }
        readsAtom();
        emits(SIGNS + sign);
      }
    }

    private void readsAtom() {
      if (broken) {
        return;
      }
      int sign = seen();
      if (within(sign, '0', '9')) {
        readsNumber();
        return;
      }
      int field = within(sign, 'a', 'z') ? FIELDS.indexOf((char) sign) : -1;
      if (field < 0) {
        broken = true;
        return;
      }
      place++;
      emits(-1 - field);
    }

    private void readsNumber() {
      int value = 0;
      for (int i = 0; i < 4 && within(seen(), '0', '9') && (i == 0 || value > 0); i++) {
        value = value * 10 + seen() - '0';
        place++;
      }
      emits(value);
    }

    boolean holds(int[] fields) {
      int top = 0;
      for (int i = 0; i < size && i < steps.length; i++) {
        int step = steps[i];
        if (step >= SIGNS) {
          top = worked(step - SIGNS, top);
        } else {
          set(stack, top, step < 0 ? at(fields, -1 - step) : step);
          top++;
        }
      }
      return at(stack, 0) != 0;
    }

    /** Works a sign on the top of the stack; the new height. */
    private int worked(int sign, int top) {
      if (top < 1 || top > stack.length) {
        return top;
      }
      int b = stack[top - 1];
      if (sign == '!') {
        stack[top - 1] = 1 - b;
        return top;
      }
      if (top < 2) {
        return top;
      }
      int a = stack[top - 2];
      int made = 0;
      switch (sign) {
        case '|': made = a | b; break;
        case '&': made = a & b; break;
        case '<': made = a < b ? 1 : 0; break;
        case '>': made = a > b ? 1 : 0; break;
        case '=': made = a == b ? 1 : 0; break;
        case '+': made = a + b; break;
        default: made = a - b; break;
      }
      stack[top - 2] = made;
      return top - 1;
    }
  }

  /** All that there is, but the shelves: as it is, in the image, or in mind. */
  private static final class World {
    int now = 0;
    /** The lands that were shut in the week that went by last. */
    int shutBits = 0;
    int districts = 0;
    int holderCount = 0;
    int lawCount = 0;
    int cartCount = 0;
    final int[] lands = new int[DISTRICTS];
    final int[] heights = new int[DISTRICTS];
    final int[] prices = new int[DISTRICTS];
    final int[] roads = new int[DISTRICTS * DISTRICTS];
    final int[] ways = new int[DISTRICTS * DISTRICTS];
    final Row[] warm = new Row[LANDS];
    final Row[] wet = new Row[LANDS];
    final Law[] laws = new Law[LAWS];
    /** By lands and purposes the law's number and one more, so that none is 0. */
    final int[] inForce = new int[LANDS * PURPOSES];
    final Holder[] holders = new Holder[HOLDERS];
    final int[] carts = new int[CARTS * CART_PARTS];
    final int[] records = new int[WEEKS * RECORD_PARTS];
    /** What the fields of a law are, as told last. */
    final int[] fields = new int[10];

    // -- the map

    boolean hasDistrict(int d) {
      return d >= 0 && d < districts;
    }

    int addsDistrict(int land, int height) {
      if (districts >= DISTRICTS) {
        return NO_ROOM;
      }
      set(lands, districts, land);
      set(heights, districts, height);
      set(prices, districts, FIRST_PRICE);
      districts++;
      findsWays();
      return districts - 1;
    }

    int laysRoad(int a, int b, int leagues) {
      int before = at(roads, a * DISTRICTS + b);
      set(roads, a * DISTRICTS + b, leagues);
      set(roads, b * DISTRICTS + a, leagues);
      findsWays();
      return before;
    }

    /** The least leagues between two districts, or none. */
    int way(int a, int b) {
      return hasDistrict(a) && hasDistrict(b) ? at(ways, a * DISTRICTS + b) : NONE;
    }

    private void findsWays() {
      for (int a = 0; a < DISTRICTS; a++) {
        for (int b = 0; b < DISTRICTS; b++) {
          int road = at(roads, a * DISTRICTS + b);
          set(ways, a * DISTRICTS + b, a == b ? 0 : road > 0 ? road : NONE);
        }
      }
      for (int over = 0; over < districts; over++) {
        for (int a = 0; a < districts; a++) {
          shortensWays(a, over);
        }
      }
    }

    private void shortensWays(int a, int over) {
      int first = way(a, over);
      for (int b = 0; b < districts && first >= 0; b++) {
        int second = way(over, b);
        int known = way(a, b);
        if (second >= 0 && (known < 0 || first + second < known)) {
          set(ways, a * DISTRICTS + b, first + second);
        }
      }
    }

    /** The next district on a way of least leagues, the first by numbers, or none. */
    int nextOnWay(int from, int to) {
      int whole = way(from, to);
      for (int d = 0; d < districts && whole > 0; d++) {
        int road = at(roads, from * DISTRICTS + d);
        int rest = way(d, to);
        if (road > 0 && rest >= 0 && road + rest == whole) {
          return d;
        }
      }
      return NONE;
    }

    private int firstDistrict(int land) {
      for (int d = 0; d < districts && d < lands.length; d++) {
        if (lands[d] == land) {
          return d;
        }
      }
      return NONE;
    }

    // -- weather

    void turnsWeather(int land, Row row, boolean isWet) {
      Row[] rows = isWet ? wet : warm;
      if (land >= 0 && land < rows.length) {
        rows[land] = row;
      }
    }

    /** What is missing is that of the first land behind that isn't missing it. */
    long weatherIn(Row[] rows, int land, int week) {
      for (int i = 0; i < LANDS; i++) {
        int from = (land + i) % LANDS;
        Row row = from >= 0 && from < rows.length ? rows[from] : null;
        if (row == null) {
          return 0;
        }
        if (!row.isMissing(week)) {
          return row.value(week);
        }
      }
      return 0;
    }

    // -- holders

    Holder holderAt(int i) {
      return i >= 0 && i < holders.length ? holders[i] : null;
    }

    Ship shipAt(int i) {
      Holder h = holderAt(i);
      if (h instanceof Ship ship) {
        return ship;
      }
      return null;
    }

    int addsHolder(Holder h) {
      if (holderCount < 0 || holderCount >= holders.length) {
        return NO_ROOM;
      }
      holders[holderCount] = h;
      holderCount++;
      return holderCount - 1;
    }

    int landOf(Holder h) {
      return at(lands, h.place);
    }

    /** The sum over all holders of what they tell of themselves. */
    int sum(int what) {
      int all = 0;
      for (Holder h : holders) {
        if (h != null) {
          all += h.told(what);
        }
      }
      return all;
    }

    /** By districts: how much corn the need of their towns leaves room for. */
    int[] wantedByTowns() {
      int[] wanted = new int[DISTRICTS];
      for (Holder h : holders) {
        if (h instanceof Town) {
          set(wanted, h.place, at(wanted, h.place) + 10 * h.need());
        }
      }
      return wanted;
    }

    // -- laws

    Law lawAt(int i) {
      return i >= 0 && i < laws.length && i < lawCount ? laws[i] : null;
    }

    int addsLaw(Law law) {
      if (lawCount < 0 || lawCount >= laws.length) {
        return NO_ROOM;
      }
      laws[lawCount] = law;
      lawCount++;
      return lawCount - 1;
    }

    int lawInForce(int land, int purpose) {
      return at(inForce, land * PURPOSES + purpose) - 1;
    }

    void enforces(int land, int purpose, int law) {
      set(inForce, land * PURPOSES + purpose, law + 1);
    }

    /** Whether the law in force for a purpose of a land holds; else what is so without one. */
    boolean allows(int purpose, int land, Holder h, boolean without) {
      Law law = lawAt(lawInForce(land, purpose));
      if (law == null) {
        return without;
      }
      tellsFields(land, h);
      return law.holds(fields);
    }

    /** The fields in the order of their letters: p w c o g m h k r b. */
    void tellsFields(int land, Holder h) {
      int district = h == null ? firstDistrict(land) : h.place;
      set(fields, 0, at(prices, district));
      set(fields, 1, now % SEASONS);
      set(fields, 2, h == null ? 0 : h.corn);
      set(fields, 3, h == null ? 0 : h.oats);
      set(fields, 4, h == null ? 0 : h.coin);
      set(fields, 5, h == null ? 0 : h.mouths);
      set(fields, 6, h == null ? 0 : h.hungry);
      set(fields, 7, h == null ? 0 : h.kind());
      set(fields, 8, Integer.bitCount(shutBits));
      set(fields, 9, land);
    }

    // -- news and carts

    int recorded(int week, int what) {
      return at(records, week * RECORD_PARTS + what);
    }

    /** A price as the news has come: a week, and one more for ten leagues. */
    int priceAsRead(int of, int leagues) {
      int week = now - 1 - leagues / 10;
      int from = week * RECORD_PARTS;
      if (week < 0 || of >= at(records, from + RECORD_DISTRICTS)) {
        return FIRST_PRICE;
      }
      return at(records, from + of);
    }

    /** Where a dealer in a district sends carts, or none. */
    int bestMarket(int from) {
      boolean isShut = (shutBits >> at(lands, from) & 1) == 1;
      int chosen = NONE;
      int most = 0;
      for (int d = 0; d < districts; d++) {
        int leagues = way(from, d);
        if (d == from || leagues < 0 || isShut && at(lands, d) != at(lands, from)) {
          continue;
        }
        int gain = priceAsRead(d, leagues) - at(prices, from) - leagues;
        if (gain > most) {
          most = gain;
          chosen = d;
        }
      }
      return chosen;
    }

    int cartPart(int i, int part) {
      return at(carts, i * CART_PARTS + part);
    }

    void changesCart(int i, int part, int v) {
      set(carts, i * CART_PARTS + part, v);
    }

    int sumOfCarts(int part) {
      int all = 0;
      for (int i = 0; i < cartCount; i++) {
        all += cartPart(i, part);
      }
      return all;
    }

    // -- copies

    void becomes(World other) {
      now = other.now;
      shutBits = other.shutBits;
      districts = other.districts;
      holderCount = other.holderCount;
      lawCount = other.lawCount;
      cartCount = other.cartCount;
      copies(other.lands, lands);
      copies(other.heights, heights);
      copies(other.prices, prices);
      copies(other.roads, roads);
      copies(other.ways, ways);
      copies(other.inForce, inForce);
      copies(other.carts, carts);
      copies(other.records, records);
      for (int i = 0; i < laws.length; i++) {
        laws[i] = other.lawAt(i);
      }
      for (int i = 0; i < LANDS; i++) {
        copiesWeather(other.warm, warm, i);
        copiesWeather(other.wet, wet, i);
      }
      for (int i = 0; i < holders.length; i++) {
        holders[i] = copyOver(holders[i], other.holderAt(i));
      }
    }

    private static void copies(int[] from, int[] to) {
      System.arraycopy(from, 0, to, 0, Math.min(from.length, to.length));
    }

    private static void copiesWeather(Row[] from, Row[] to, int i) {
      if (i >= 0 && i < from.length && i < to.length) {
        to[i] = from[i];
      }
    }

    /** Uses the old copy again where it is of the same kind: room is scarce. */
    private static Holder copyOver(Holder old, Holder h) {
      if (h == null) {
        return null;
      }
      Holder copy = old != null && old.kind() == h.kind() ? old : newHolder(h.kind());
      copy.becomes(h);
      return copy;
    }
  }

  /** How a week goes by in a world. */
  private static final class Week {
    private final World w;
    private final int[] offers = new int[DISTRICTS];
    private final int[] asked = new int[DISTRICTS];
    private int colder = 0;
    private int closed = 0;
    private int opened = 0;

    Week(World w) {
      this.w = w;
    }

    /** Weeks from now on: how much less warm, which lands are shut or not whatever their laws. */
    void passesUnder(int colder, int closed, int opened) {
      this.colder = colder;
      this.closed = closed;
      this.opened = opened;
    }

    /** A week goes by: all hungry. */
    int passes() {
      shutsLands();
      worksFields();
      for (Holder h : w.holders) {
        if (h instanceof Ship ship) {
          ship.sails();
        }
      }
      eats();
      for (Holder h : w.holders) {
        if (h != null) {
          h.feedsHorses();
          h.sickens();
        }
      }
      sendsCarts();
      movesCarts();
      walks();
      setsPrices();
      return tellsRecord();
    }

    private void shutsLands() {
      int bits = 0;
      for (int land = 0; land < LANDS; land++) {
        if (w.allows(SHUT, land, null, false)) {
          bits |= 1 << land;
        }
      }
      w.shutBits = (bits | closed) & ~opened;
    }

    private void worksFields() {
      int season = w.now % SEASONS;
      for (Holder h : w.holders) {
        if (h instanceof Farm farm) {
          worksField(farm, season);
        }
      }
    }

    private void worksField(Farm farm, int season) {
      if (season == 10) {
        farm.sows();
      }
      if (within(season, 12, 34) && farm.sown > 0) {
        farm.growth += growthOf(farm);
      }
      if (season == 30) {
        farm.growsOats();
      }
      if (season == 35) {
        farm.reaps();
      }
    }

    private int growthOf(Farm farm) {
      int land = w.landOf(farm);
      long warm = w.weatherIn(w.warm, land, w.now) - colder - at(w.heights, farm.place);
      long off = w.weatherIn(w.wet, land, w.now) - 5;
      long away = off < 0 ? -off : off;
      return (int) (Math.max(0, Math.min(9, warm)) - Math.min(9, away));
    }

    private void eats() {
      for (Holder h : w.holders) {
        if (h == null) {
          continue;
        }
        int lack = h.need();
        int own = Math.min(lack, h.corn);
        h.corn -= own;
        lack -= own;
        if (lack > 0 && h.buys()) {
          lack = lackAfterBuying(h, lack);
        }
        h.lacks(lack);
      }
    }

    private int lackAfterBuying(Holder buyer, int lack) {
      int price = at(w.prices, buyer.place);
      int left = lack;
      for (Holder seller : w.holders) {
        if (seller == null || !seller.trades() || !seller.liesIn(buyer.place) || price <= 0) {
          continue;
        }
        int n = Math.min(Math.min(left, seller.surplus()), 10 * buyer.coin / price);
        if (n > 0 && (seller instanceof Farm
            || w.allows(SELL, w.landOf(buyer), seller, !(seller instanceof Store)))) {
          int cost = tenthUp(n * price);
          buyer.coin -= cost;
          seller.earns(cost);
          seller.corn -= n;
          left -= n;
        }
      }
      return left;
    }

    private void sendsCarts() {
      for (int i = 0; i < HOLDERS && w.cartCount < CARTS; i++) {
        Holder h = w.holderAt(i);
        if (h != null && h.kind() == DEALER && h.horses > 0) {
          sendsCart(i, h);
        }
      }
    }

    private void sendsCart(int number, Holder dealer) {
      int district = w.bestMarket(dealer.place);
      int leagues = w.way(dealer.place, district);
      int load = Math.min(10 * dealer.horses, dealer.corn);
      int oats = tenthUp(dealer.horses * leagues);
      if (district < 0 || load <= 0 || dealer.oats < oats) {
        return;
      }
      int i = w.cartCount;
      w.cartCount++;
      w.changesCart(i, CART_DEALER, number);
      w.changesCart(i, CART_DISTRICT, district);
      w.changesCart(i, CART_CORN, load);
      w.changesCart(i, CART_HORSES, dealer.horses);
      w.changesCart(i, CART_LEAGUES, leagues);
      dealer.corn -= load;
      dealer.oats -= oats;
      dealer.horses = 0;
    }

    private void movesCarts() {
      int kept = 0;
      for (int i = 0; i < w.cartCount; i++) {
        int leagues = w.cartPart(i, CART_LEAGUES) - 10;
        if (leagues <= 0) {
          arrives(i);
          continue;
        }
        for (int part = 0; part < CART_PARTS; part++) {
          w.changesCart(kept, part, w.cartPart(i, part));
        }
        w.changesCart(kept, CART_LEAGUES, leagues);
        kept++;
      }
      w.cartCount = kept;
    }

    private void arrives(int i) {
      Holder dealer = w.holderAt(w.cartPart(i, CART_DEALER));
      if (dealer == null) {
        return;
      }
      int district = w.cartPart(i, CART_DISTRICT);
      int corn = w.cartPart(i, CART_CORN);
      Holder town = firstTown(district);
      if (town == null) {
        dealer.stores(corn);
      } else {
        int paid = Math.min(town.coin, at(w.prices, district) / 10 * corn);
        town.coin -= paid;
        dealer.earns(paid);
        town.stores(corn);
      }
      dealer.horses = Math.min(MOST_HORSES, dealer.horses + w.cartPart(i, CART_HORSES));
    }

    private Holder firstTown(int district) {
      for (Holder h : w.holders) {
        if (h instanceof Town && h.place == district) {
          return h;
        }
      }
      return null;
    }

    private void walks() {
      for (Holder h : w.holders) {
        if (h instanceof Walker walker) {
          walksOn(walker);
        }
      }
    }

    private void walksOn(Walker walker) {
      int next = w.nextOnWay(walker.place, walker.aim);
      if (next < 0) {
        return;
      }
      int land = at(w.lands, next);
      if (land == w.landOf(walker) || w.allows(LET, land, walker, true)) {
        walker.place = next;
      }
    }

    private void setsPrices() {
      Arrays.fill(offers, 0);
      Arrays.fill(asked, 0);
      for (Holder h : w.holders) {
        if (h == null || !h.liesIn(h.place)) {
          continue;
        }
        set(offers, h.place, at(offers, h.place) + h.surplus());
        if (h.buys()) {
          set(asked, h.place, at(asked, h.place) + h.need());
        }
      }
      for (int d = 0; d < w.districts; d++) {
        int price = at(w.prices, d);
        if (at(offers, d) < 2 * at(asked, d)) {
          price = Math.min(999, price + price / 10 + 1);
        } else if (at(offers, d) > 8 * at(asked, d)) {
          price = Math.max(5, price - price / 20);
        }
        set(w.prices, d, price);
      }
    }

    private int tellsRecord() {
      int from = w.now * RECORD_PARTS;
      for (int d = 0; d < DISTRICTS; d++) {
        set(w.records, from + d, at(w.prices, d));
      }
      int hungry = 0;
      int dead = 0;
      for (Holder h : w.holders) {
        if (h != null) {
          hungry += h.hungry;
          dead += h.died;
        }
      }
      set(w.records, from + RECORD_HUNGRY, hungry);
      set(w.records, from + RECORD_DEAD, dead);
      set(w.records, from + RECORD_SHUT, w.shutBits);
      set(w.records, from + RECORD_DISTRICTS, w.districts);
      w.now++;
      return hungry;
    }
  }
}
