import java.util.ArrayList;
import java.util.List;

/**
 * The face as plainly as the document tells it, for RandomRunsTest: written
 * anew from the document, with nothing of the program's own ways.
 */
public final class PlainModel {
  private PlainWorld w = new PlainWorld();
  private PlainWorld image = null;
  /** What each shelf holds: null, a PlainWorld.Holder or a PlainWorld.Row. */
  private final Object[] shelves = new Object[8];

  private static boolean in(int v, int least, int most) {
    return v >= least && v <= most;
  }

  private boolean isDistrict(int d) {
    return in(d, 0, w.lands.size() - 1);
  }

  private boolean isHolder(int h) {
    return in(h, 0, w.holders.size() - 1);
  }

  private boolean isLaw(int law) {
    return in(law, 0, w.laws.size() - 1);
  }

  private boolean isKind(int h, int kind) {
    return isHolder(h) && w.holders.get(h).kind == kind;
  }

  // ---- the map

  public int district(int land, int height) {
    if (!in(land, 0, 3) || !in(height, 0, 9)) {
      return -1;
    }
    if (w.lands.size() == 10) {
      return -2;
    }
    w.lands.add(land);
    w.heights.add(height);
    w.prices.add(20);
    return w.lands.size() - 1;
  }

  public int road(int a, int b, int leagues) {
    if (!isDistrict(a) || !isDistrict(b) || a == b || !in(leagues, 0, 30)) {
      return -1;
    }
    int before = w.roads[a][b];
    w.roads[a][b] = leagues;
    w.roads[b][a] = leagues;
    return before;
  }

  public int far(int a, int b) {
    return isDistrict(a) && isDistrict(b) ? w.far(a, b) : -1;
  }

  public int weather(int land, int d, boolean wet) {
    if (!in(land, 0, 3)) {
      return -1;
    }
    if (rowRefusal(d) < 0) {
      return rowRefusal(d);
    }
    PlainWorld.Row row = (PlainWorld.Row) shelves[d];
    (wet ? w.wet : w.warm)[land] = new PlainWorld.Row(row.sort, row.elements.clone());
    return row.elements.length;
  }

  public long sky(int land, int week, boolean wet) {
    if (!in(land, 0, 3) || !in(week, 0, 156)) {
      throw new IllegalArgumentException();
    }
    return w.weather(wet ? w.wet : w.warm, land, week);
  }

  public int price(int district) {
    return isDistrict(district) ? w.prices.get(district) : -1;
  }

  // ---- holders

  public int holder(int kind, int district, int mouths) {
    if (!in(kind, 0, 5) || !isDistrict(district) || !in(mouths, 0, 999)) {
      return -1;
    }
    if (w.holders.size() == 30) {
      return -2;
    }
    PlainWorld.Holder h = new PlainWorld.Holder();
    h.kind = kind;
    h.district = district;
    h.mouths = mouths;
    w.holders.add(h);
    return w.holders.size() - 1;
  }

  public int gives(int holder, int what, int n) {
    if (!isHolder(holder) || !in(what, 0, 3) || !in(n, 1, 9999)) {
      return -1;
    }
    PlainWorld.Holder h = w.holders.get(holder);
    int then = n + h.told(2 + what);
    if (then > (what == 3 ? 999 : 99999)) {
      return -2;
    }
    h.corn = what == 0 ? then : h.corn;
    h.oats = what == 1 ? then : h.oats;
    h.coin = what == 2 ? then : h.coin;
    h.horses = what == 3 ? then : h.horses;
    return then;
  }

  public int field(int holder, int n) {
    if (!isHolder(holder) || !in(n, 0, 999)) {
      return -1;
    }
    if (!isKind(holder, PlainWorld.FARM)) {
      return -3;
    }
    int before = w.holders.get(holder).field;
    w.holders.get(holder).field = n;
    return before;
  }

  public int goal(int holder, int district, int weeks) {
    boolean walks = isKind(holder, PlainWorld.WALKER);
    if (!isHolder(holder) || !isDistrict(district) || !in(weeks, 0, walks ? 0 : 30)) {
      return -1;
    }
    if (!walks && !isKind(holder, PlainWorld.SHIP)) {
      return -3;
    }
    w.holders.get(holder).goal = district;
    w.holders.get(holder).weeks = weeks;
    return 1;
  }

  public int about(int holder, int what) {
    return isHolder(holder) && in(what, 0, 15) ? w.holders.get(holder).told(what) : -1;
  }

  // ---- laws

  public int fault(int d) {
    return textRefusal(d) < 0 ? textRefusal(d)
        : PlainLaw.fault(((PlainWorld.Row) shelves[d]).elements);
  }

  public int law(int d) {
    if (!in(d, 0, 7)) {
      return -1;
    }
    if (w.laws.size() == 20) {
      return -2;
    }
    if (textRefusal(d) < 0) {
      return textRefusal(d);
    }
    int fault = fault(d);
    if (fault >= 0) {
      return -100 - fault;
    }
    StringBuilder law = new StringBuilder();
    for (int sign : ((PlainWorld.Row) shelves[d]).elements) {
      law.append((char) sign);
    }
    w.laws.add(law.toString());
    return w.laws.size() - 1;
  }

  public int force(int land, int purpose, int law) {
    if (!in(land, 0, 3) || !in(purpose, 0, 3) || law != -1 && !isLaw(law)) {
      return -1;
    }
    int before = w.inForce[land][purpose];
    w.inForce[land][purpose] = law;
    return before == -1 ? -4 : before;
  }

  public int may(int law, int land, int holder) {
    if (!isLaw(law) || !in(land, 0, 3) || holder != -1 && !isHolder(holder)) {
      return -1;
    }
    return w.holds(law, land, holder == -1 ? null : w.holders.get(holder)) ? 1 : 0;
  }

  public int shut(int land) {
    if (!in(land, 0, 3)) {
      return -1;
    }
    return w.allowed(0, land, null, false) ? 1 : 0;
  }

  // ---- weeks

  public int go(int n) {
    if (!in(n, 1, 26)) {
      return -1;
    }
    if (w.now + n > 156) {
      return -2;
    }
    for (int i = 1; i < n; i++) {
      w.week();
    }
    return w.week();
  }

  public int record(int week, int what) {
    if (!in(week, 0, 156) || !in(what, 0, 12) || what < 10 && !isDistrict(what)) {
      return -1;
    }
    if (week >= w.now) {
      return -3;
    }
    PlainWorld.Told told = w.record.get(week);
    if (what < 10) {
      return what < told.prices.length ? told.prices[what] : -1;
    }
    return what == 10 ? told.hungry : what == 11 ? told.dead : told.shut;
  }

  public int read(int in, int of) {
    if (!isDistrict(in) || !isDistrict(of)) {
      return -1;
    }
    return w.far(in, of) < 0 ? -3 : w.priceAsRead(in, of);
  }

  public int sends(int holder) {
    if (!isHolder(holder)) {
      return -1;
    }
    return isKind(holder, PlainWorld.DEALER) ? w.sends(w.holders.get(holder)) : -3;
  }

  public int cart(int i, int what) {
    return in(i, 0, w.carts.size() - 1) && in(what, 0, 4) ? w.carts.get(i).told(what) : -1;
  }

  public int brings(int a, int b, int h) {
    if (!isDistrict(a) || !isDistrict(b) || !in(h, 1, 99)) {
      return -1;
    }
    int far = w.far(a, b);
    return far < 0 ? -3 : Math.max(0, 10 * h - (h * far + 9) / 10);
  }

  // ---- relief, ships, acts

  public int relief(int holder, int n) {
    if (!isHolder(holder) || !in(n, 1, 9999)) {
      return -1;
    }
    PlainWorld.Holder store = w.holders.get(holder);
    if (store.kind != PlainWorld.STORE || store.coin < n) {
      return -3;
    }
    int land = w.lands.get(store.district);
    List<PlainWorld.Holder> towns = new ArrayList<>();
    for (PlainWorld.Holder h : w.holders) {
      if (h.kind == PlainWorld.TOWN && w.lands.get(h.district) == land
          && w.allowed(1, land, h, h.hungry > 0)) {
        towns.add(h);
      }
    }
    towns.sort((a, b) -> b.hungry - a.hungry);
    int mouths = 0;
    for (PlainWorld.Holder h : towns) {
      for (int i = 0; i < h.hungry && n - 10 * mouths >= 10; i++) {
        store.coin -= 10;
        h.coin = Math.min(99999, h.coin + 10);
        mouths++;
      }
    }
    return mouths;
  }

  public int coin(int district, int n, int as) {
    if (!isDistrict(district) || !in(n, 1, 9999) || !in(as, 0, 2)) {
      return -1;
    }
    int bread = 10 * n / w.prices.get(district);
    return as == 0 ? bread : as == 1 ? n / 3 : 6 * bread;
  }

  public int turn(int ship, int district, int word) {
    if (!isKind(ship, PlainWorld.SHIP) || !isDistrict(district) || !in(word, 0, 30)) {
      return -1;
    }
    PlainWorld.Holder h = w.holders.get(ship);
    if (h.weeks == 0 || h.weeks <= word || w.far(h.goal, district) < 0) {
      return -3;
    }
    h.weeks += w.far(h.goal, district) / 10;
    h.goal = district;
    return h.weeks;
  }

  public int turning(int d, int word) {
    if (!in(d, 0, 7) || !in(word, 0, 30)) {
      return -1;
    }
    return listRefusal(d) < 0 ? listRefusal(d) : bestTurning(d, word)[5];
  }

  public int turned(int d, int word, int ship) {
    if (!in(d, 0, 7) || !in(word, 0, 30) || !isKind(ship, PlainWorld.SHIP)) {
      return -1;
    }
    int rank = fleet().indexOf(w.holders.get(ship));
    if (rank < 0) {
      return -4;
    }
    return listRefusal(d) < 0 ? listRefusal(d) : bestTurning(d, word)[rank];
  }

  private List<PlainWorld.Holder> fleet() {
    List<PlainWorld.Holder> fleet = new ArrayList<>();
    for (PlainWorld.Holder h : w.holders) {
      if (h.kind == PlainWorld.SHIP && h.weeks > 0 && fleet.size() < 5) {
        fleet.add(h);
      }
    }
    return fleet;
  }

  /** The goals of the five and, behind them, what is served. */
  private int[] bestTurning(int d, int word) {
    int[] best = new int[6];
    best[5] = -1;
    turns(fleet(), ((PlainWorld.Row) shelves[d]).elements, word, 0, new int[6], best);
    return best;
  }

  private void turns(List<PlainWorld.Holder> fleet, int[] list, int word, int rank, int[] goals,
      int[] best) {
    if (rank == fleet.size()) {
      goals[5] = served(fleet, goals);
      if (goals[5] > best[5]) {
        System.arraycopy(goals, 0, best, 0, 6);
      }
      return;
    }
    PlainWorld.Holder ship = fleet.get(rank);
    goals[rank] = ship.goal;
    turns(fleet, list, word, rank + 1, goals, best);
    for (int district : list) {
      if (ship.weeks > word && district != ship.goal) {
        goals[rank] = district;
        turns(fleet, list, word, rank + 1, goals, best);
      }
    }
  }

  private int served(List<PlainWorld.Holder> fleet, int[] goals) {
    int all = 0;
    for (int d = 0; d < w.lands.size(); d++) {
      int corn = 0;
      for (int i = 0; i < fleet.size(); i++) {
        corn += goals[i] == d ? fleet.get(i).corn : 0;
      }
      int need = 0;
      for (PlainWorld.Holder h : w.holders) {
        need += h.kind == PlainWorld.TOWN && h.district == d ? h.need() : 0;
      }
      all += Math.min(corn, 10 * need);
    }
    return all;
  }

  public int behind(int land, int n) {
    if (!in(land, 0, 3) || !in(n, 1, 30)) {
      return -1;
    }
    if (w.now + n > 156) {
      return -2;
    }
    boolean[] with = shutInMind(land, n, true);
    boolean[] without = shutInMind(land, n, false);
    int bits = 0;
    for (int l = 0; l < 4; l++) {
      bits += l != land && with[l] && !without[l] ? 1 << l : 0;
    }
    return bits;
  }

  private boolean[] shutInMind(int land, int n, boolean shut) {
    PlainWorld mind = w.copied();
    mind.landInMind = land;
    mind.shutInMind = shut;
    for (int i = 0; i < n; i++) {
      mind.week();
    }
    return mind.shut;
  }

  public int worst(int land, int purpose, int law, int n) {
    if (!in(land, 0, 3) || !in(purpose, 0, 3) || law != -1 && !isLaw(law) || !in(n, 1, 30)) {
      return -1;
    }
    if (w.now + n > 156) {
      return -2;
    }
    return Math.max(mostHungry(land, purpose, law, n, 0), mostHungry(land, purpose, law, n, 3));
  }

  private int mostHungry(int land, int purpose, int law, int n, int colder) {
    PlainWorld mind = w.copied();
    mind.colder = colder;
    mind.inForce[land][purpose] = law;
    int most = 0;
    for (int i = 0; i < n; i++) {
      most = Math.max(most, mind.week());
    }
    return most;
  }

  public int best(int land, int purpose, int n) {
    int least = worst(land, purpose, -1, n);
    if (least < 0) {
      return least;
    }
    int best = -4;
    for (int law = 0; law < 8 && isLaw(law); law++) {
      int worst = worst(land, purpose, law, n);
      if (worst < least) {
        least = worst;
        best = law;
      }
    }
    return best;
  }

  // ---- the image, what is told

  public int image() {
    image = w.copied();
    return w.now;
  }

  public int restore() {
    if (image == null) {
      return -3;
    }
    w = image.copied();
    return w.now;
  }

  public int count(int what) {
    int[] all = new int[11];
    all[0] = w.lands.size();
    all[1] = w.holders.size();
    all[2] = w.laws.size();
    all[3] = w.now;
    all[4] = w.carts.size();
    for (PlainWorld.Holder h : w.holders) {
      all[5] += h.corn + h.sown;
      all[6] += h.oats;
      all[7] += h.coin;
      all[8] += h.horses;
      all[9] += h.mouths;
      all[10] += h.died;
    }
    for (PlainWorld.Cart c : w.carts) {
      all[5] += c.corn;
      all[8] += c.horses;
    }
    return in(what, 0, 10) ? all[what] : -1;
  }

  // ---- shelves

  private int rowRefusal(int d) {
    if (!in(d, 0, 7)) {
      return -1;
    }
    return shelves[d] == null ? -11 : shelves[d] instanceof PlainWorld.Row ? 0 : -12;
  }

  private int textRefusal(int d) {
    int refusal = rowRefusal(d);
    return refusal == 0 && ((PlainWorld.Row) shelves[d]).sort != 0 ? -12 : refusal;
  }

  private int listRefusal(int d) {
    if (textRefusal(d) < 0) {
      return textRefusal(d);
    }
    int[] list = ((PlainWorld.Row) shelves[d]).elements;
    boolean all = in(list.length, 1, 3);
    for (int district : list) {
      all &= isDistrict(district);
    }
    return all ? 0 : -13;
  }

  private int holderRefusal(int d) {
    int refusal = rowRefusal(d);
    return refusal == 0 ? -12 : refusal == -12 ? 0 : refusal;
  }

  public int keep(int d, int what, int k) {
    if (!in(d, 0, 7) || !in(what, 0, 1) || what == 1 && !isHolder(k)) {
      return -1;
    }
    shelves[d] = what == 0 ? null : w.holders.get(k).copied();
    return 0;
  }

  public int row(int d, int sort, int n) {
    if (!in(d, 0, 7) || !in(sort, 0, 2) || n > 160) {
      return -1;
    }
    if (n < 0) {
      return -14;
    }
    shelves[d] = new PlainWorld.Row(sort, new int[n]);
    return 0;
  }

  public int put(int d, int i, int v) {
    if (rowRefusal(d) < 0) {
      return rowRefusal(d);
    }
    PlainWorld.Row row = (PlainWorld.Row) shelves[d];
    if (!in(i, 0, row.elements.length - 1)) {
      return -13;
    }
    row.elements[i] = row.lowest(v);
    return 0;
  }

  public long element(int d, int i) {
    if (!in(d, 0, 7)) {
      throw new IllegalArgumentException();
    }
    if (rowRefusal(d) < 0 || !in(i, 0, ((PlainWorld.Row) shelves[d]).elements.length - 1)) {
      throw new IllegalStateException();
    }
    return ((PlainWorld.Row) shelves[d]).elements[i];
  }

  public int copy(int d, int i, int e, int j, int n) {
    if (!in(d, 0, 7) || !in(e, 0, 7)) {
      return -1;
    }
    if (shelves[d] == null || shelves[e] == null) {
      return -11;
    }
    if (rowRefusal(d) < 0 || rowRefusal(e) < 0
        || ((PlainWorld.Row) shelves[d]).sort != ((PlainWorld.Row) shelves[e]).sort) {
      return -12;
    }
    int[] from = ((PlainWorld.Row) shelves[d]).elements.clone();
    int[] to = ((PlainWorld.Row) shelves[e]).elements;
    if (i < 0 || j < 0 || n < 0 || (long) i + n > from.length || (long) j + n > to.length) {
      return -13;
    }
    for (int k = 0; k < n; k++) {
      to[j + k] = from[i + k];
    }
    return n;
  }

  public int weight(int d) {
    if (holderRefusal(d) < 0) {
      return holderRefusal(d);
    }
    PlainWorld.Holder h = (PlainWorld.Holder) shelves[d];
    int weight = 100 + h.need() + h.horses;
    switch (h.kind) {
      case PlainWorld.FARM: return weight + h.field;
      case PlainWorld.DEALER: case PlainWorld.STORE: return weight + 200;
      case PlainWorld.SHIP: return 2 * (weight + 200);
      case PlainWorld.WALKER: return weight + (h.goal < 0 ? 0 : h.goal);
      default: return weight;
    }
  }

  public int toss(int d) {
    if (holderRefusal(d) < 0) {
      return holderRefusal(d);
    }
    PlainWorld.Holder h = (PlainWorld.Holder) shelves[d];
    if (h.kind == PlainWorld.FARM || !h.lies()) {
      return -15;
    }
    return h.kind == PlainWorld.STORE ? h.district + 100 : h.district;
  }
}
