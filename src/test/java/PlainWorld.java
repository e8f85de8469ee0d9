import java.util.ArrayList;
import java.util.List;

/** All that there is but the shelves, and how a week goes by, as plainly as the document tells it. */
final class PlainWorld {
  static final int FARM = 0;
  static final int TOWN = 1;
  static final int DEALER = 2;
  static final int STORE = 3;
  static final int SHIP = 4;
  static final int WALKER = 5;

  static final class Holder {
    int kind;
    int district;
    int corn;
    int oats;
    int coin;
    int horses;
    int mouths;
    int hungry;
    int ill;
    int died;
    int field;
    int sown;
    int growth;
    /** A ship's goal or a walker's aim. */
    int goal = -4;
    int weeks;

    Holder copied() {
      Holder h = new Holder();
      h.kind = kind;
      h.district = district;
      h.corn = corn;
      h.oats = oats;
      h.coin = coin;
      h.horses = horses;
      h.mouths = mouths;
      h.hungry = hungry;
      h.ill = ill;
      h.died = died;
      h.field = field;
      h.sown = sown;
      h.growth = growth;
      h.goal = goal;
      h.weeks = weeks;
      return h;
    }

    int need() {
      switch (kind) {
        case FARM: return mouths + mouths / 2;
        case STORE: return 0;
        case SHIP: case WALKER: return mouths / 2;
        default: return mouths;
      }
    }

    int keeps() {
      switch (kind) {
        case FARM: return 4 * need() + 8 * field;
        case STORE: return 100;
        case DEALER: case SHIP: return 0;
        default: return 4 * need();
      }
    }

    int above() {
      return Math.max(0, corn - keeps());
    }

    boolean lies() {
      return kind != SHIP || weeks == 0;
    }

    boolean buys() {
      return kind == TOWN || kind == WALKER;
    }

    int told(int what) {
      return new int[] {kind, district, corn, oats, coin, horses, mouths, hungry, ill, need(),
          keeps(), sown, growth, weeks, goal, died}[what];
    }
  }

  static final class Row {
    final int sort;
    final int[] elements;

    Row(int sort, int[] elements) {
      this.sort = sort;
      this.elements = elements;
    }

    int lowest(int v) {
      return sort == 0 ? (byte) v : sort == 1 ? (short) v : v;
    }

    int least() {
      return sort == 0 ? Byte.MIN_VALUE : sort == 1 ? Short.MIN_VALUE : Integer.MIN_VALUE;
    }
  }

  static final class Cart {
    int dealer;
    int district;
    int corn;
    int horses;
    int leagues;

    Cart copied() {
      Cart c = new Cart();
      c.dealer = dealer;
      c.district = district;
      c.corn = corn;
      c.horses = horses;
      c.leagues = leagues;
      return c;
    }

    int told(int what) {
      return new int[] {dealer, district, corn, horses, leagues}[what];
    }
  }

  /** What is kept of a week; the prices are as many as there were districts. */
  static final class Told {
    int[] prices;
    int hungry;
    int dead;
    int shut;
  }

  int now = 0;
  final List<Integer> lands = new ArrayList<>();
  final List<Integer> heights = new ArrayList<>();
  final List<Integer> prices = new ArrayList<>();
  final int[][] roads = new int[10][10];
  final Row[] warm = new Row[4];
  final Row[] wet = new Row[4];
  final List<Holder> holders = new ArrayList<>();
  final List<String> laws = new ArrayList<>();
  final int[][] inForce = {{-1, -1, -1, -1}, {-1, -1, -1, -1}, {-1, -1, -1, -1}, {-1, -1, -1, -1}};
  boolean[] shut = new boolean[4];
  final List<Cart> carts = new ArrayList<>();
  final List<Told> record = new ArrayList<>();
  /** In mind: how much less warm it is, and a land that is shut, or not, whatever its law. */
  int colder = 0;
  int landInMind = -1;
  boolean shutInMind = false;

  PlainWorld copied() {
    PlainWorld w = new PlainWorld();
    w.now = now;
    w.lands.addAll(lands);
    w.heights.addAll(heights);
    w.prices.addAll(prices);
    for (int i = 0; i < 10; i++) {
      w.roads[i] = roads[i].clone();
    }
    for (int i = 0; i < 4; i++) {
      w.warm[i] = warm[i];
      w.wet[i] = wet[i];
      w.inForce[i] = inForce[i].clone();
    }
    for (Holder h : holders) {
      w.holders.add(h.copied());
    }
    w.laws.addAll(laws);
    w.shut = shut.clone();
    for (Cart c : carts) {
      w.carts.add(c.copied());
    }
    w.record.addAll(record);
    return w;
  }

  /** The least leagues, found by walking on until nothing gets nearer; -4: no way. */
  int far(int from, int to) {
    int far = 1_000_000;
    int[] least = new int[lands.size()];
    for (int d = 0; d < least.length; d++) {
      least[d] = d == from ? 0 : far;
    }
    for (int round = 0; round < least.length; round++) {
      for (int a = 0; a < least.length; a++) {
        for (int b = 0; b < least.length; b++) {
          if (roads[a][b] > 0) {
            least[b] = Math.min(least[b], least[a] + roads[a][b]);
          }
        }
      }
    }
    return least[to] >= far ? -4 : least[to];
  }

  int weather(Row[] rows, int land, int week) {
    for (int i = 0; i < 4; i++) {
      Row row = rows[(land + i) % 4];
      int v = row == null || week >= row.elements.length ? 0 : row.elements[week];
      if (row == null || v != row.least()) {
        return v;
      }
    }
    return 0;
  }

  boolean holds(int law, int land, Holder h) {
    int district = h == null ? lands.indexOf(land) : h.district;
    int shutLands = 0;
    for (boolean s : shut) {
      shutLands += s ? 1 : 0;
    }
    return PlainLaw.holds(laws.get(law), new int[] {district < 0 ? 0 : prices.get(district),
        now % 52, h == null ? 0 : h.corn, h == null ? 0 : h.oats, h == null ? 0 : h.coin,
        h == null ? 0 : h.mouths, h == null ? 0 : h.hungry, h == null ? 0 : h.kind, shutLands,
        land});
  }

  boolean allowed(int purpose, int land, Holder h, boolean without) {
    int law = inForce[land][purpose];
    return law < 0 ? without : holds(law, land, h);
  }

  int priceAsRead(int in, int of) {
    int week = now - 1 - far(in, of) / 10;
    return week < 0 || of >= record.get(week).prices.length ? 20 : record.get(week).prices[of];
  }

  int sends(Holder dealer) {
    int own = dealer.district;
    int chosen = -4;
    int most = 0;
    for (int d = 0; d < lands.size(); d++) {
      boolean barred = shut[lands.get(own)] && !lands.get(d).equals(lands.get(own));
      if (d != own && far(own, d) >= 0 && !barred) {
        int gain = priceAsRead(own, d) - prices.get(own) - far(own, d);
        if (gain > most) {
          most = gain;
          chosen = d;
        }
      }
    }
    return chosen;
  }

  /** A week goes by: all hungry. */
  int week() {
    shuts();
    for (Holder h : holders) {
      if (h.kind == FARM) {
        farms(h, now % 52);
      }
    }
    for (Holder h : holders) {
      if (h.kind == SHIP && h.weeks > 0) {
        h.weeks--;
        h.district = h.weeks == 0 ? h.goal : h.district;
      }
    }
    for (Holder h : holders) {
      eats(h);
    }
    for (Holder h : holders) {
      int fed = Math.min(h.horses, h.oats);
      h.oats -= fed;
      h.horses -= (h.horses - fed) / 2;
    }
    for (Holder h : holders) {
      h.ill = h.hungry == 0 ? h.ill / 2 : Math.min(h.mouths, h.ill + h.hungry / 4);
      int dead = h.ill / 8;
      h.mouths -= dead;
      h.ill -= dead;
      h.died += dead;
    }
    for (Holder h : holders) {
      if (h.kind == DEALER) {
        sendsCart(h);
      }
    }
    movesCarts();
    for (Holder h : holders) {
      if (h.kind == WALKER && h.goal >= 0) {
        walks(h);
      }
    }
    for (int d = 0; d < lands.size(); d++) {
      prices.set(d, nextPrice(d));
    }
    return records();
  }

  private void shuts() {
    boolean[] then = new boolean[4];
    for (int land = 0; land < 4; land++) {
      then[land] = land == landInMind ? shutInMind : allowed(0, land, null, false);
    }
    shut = then;
  }

  private void farms(Holder h, int season) {
    if (season == 10) {
      h.sown = Math.min(h.corn, h.field);
      h.corn -= h.sown;
      h.growth = 0;
    }
    if (season >= 12 && season <= 34 && h.sown > 0) {
      int land = lands.get(h.district);
      long mild = (long) weather(warm, land, now) - colder - heights.get(h.district);
      long off = Math.abs((long) weather(wet, land, now) - 5);
      h.growth += (int) (Math.min(9, Math.max(0, mild)) - Math.min(9, off));
    }
    if (season == 30) {
      h.oats = Math.min(99999, h.oats + h.field / 4);
    }
    if (season == 35) {
      int reaped = Math.min(12 * h.sown, Math.max(0, h.sown * h.growth / 20));
      h.corn = Math.min(99999, h.corn + reaped);
      h.sown = 0;
    }
  }

  private void eats(Holder h) {
    int own = Math.min(h.need(), h.corn);
    h.corn -= own;
    int lack = h.need() - own;
    if (h.buys()) {
      for (Holder seller : holders) {
        lack -= lack > 0 ? bought(h, seller, lack) : 0;
      }
    }
    int each = h.mouths == 0 ? 1 : Math.max(1, (h.need() + h.mouths - 1) / h.mouths);
    h.hungry = Math.min(h.mouths, (lack + each - 1) / each);
  }

  /** How many bushels a holder buys of a seller; they are eaten at once. */
  private int bought(Holder h, Holder seller, int lack) {
    if (seller.buys() || seller.district != h.district || !seller.lies()) {
      return 0;
    }
    int land = lands.get(h.district);
    if (seller.kind != FARM && !allowed(2, land, seller, seller.kind != STORE)) {
      return 0;
    }
    int n = Math.min(lack, seller.above());
    while (cost(h, n) > h.coin) {
      n--;
    }
    h.coin -= cost(h, n);
    seller.coin = Math.min(99999, seller.coin + cost(h, n));
    seller.corn -= n;
    return n;
  }

  private int cost(Holder h, int n) {
    return (n * prices.get(h.district) + 9) / 10;
  }

  private void sendsCart(Holder h) {
    int to = sends(h);
    int load = Math.min(10 * h.horses, h.corn);
    if (to < 0 || load == 0 || carts.size() >= 12) {
      return;
    }
    int oats = (h.horses * far(h.district, to) + 9) / 10;
    if (h.oats < oats) {
      return;
    }
    Cart c = new Cart();
    c.dealer = holders.indexOf(h);
    c.district = to;
    c.corn = load;
    c.horses = h.horses;
    c.leagues = far(h.district, to);
    carts.add(c);
    h.corn -= load;
    h.oats -= oats;
    h.horses = 0;
  }

  private void movesCarts() {
    for (Cart c : carts) {
      c.leagues -= 10;
      if (c.leagues <= 0) {
        arrives(c);
      }
    }
    carts.removeIf(c -> c.leagues <= 0);
  }

  private void arrives(Cart c) {
    Holder dealer = holders.get(c.dealer);
    dealer.horses = Math.min(999, dealer.horses + c.horses);
    for (Holder h : holders) {
      if (h.kind == TOWN && h.district == c.district) {
        int paid = Math.min(h.coin, prices.get(c.district) / 10 * c.corn);
        h.coin -= paid;
        dealer.coin = Math.min(99999, dealer.coin + paid);
        h.corn = Math.min(99999, h.corn + c.corn);
        return;
      }
    }
    dealer.corn = Math.min(99999, dealer.corn + c.corn);
  }

  private void walks(Holder h) {
    for (int d = 0; d < lands.size() && h.district != h.goal; d++) {
      int road = roads[h.district][d];
      if (road > 0 && far(d, h.goal) >= 0 && road + far(d, h.goal) == far(h.district, h.goal)) {
        int land = lands.get(d);
        if (land == lands.get(h.district) || allowed(3, land, h, true)) {
          h.district = d;
        }
        return;
      }
    }
  }

  private int nextPrice(int d) {
    int offer = 0;
    int asked = 0;
    for (Holder h : holders) {
      if (h.district == d && h.lies()) {
        offer += h.above();
        asked += h.buys() ? h.need() : 0;
      }
    }
    int price = prices.get(d);
    if (offer < 2 * asked) {
      return Math.min(999, price + price / 10 + 1);
    }
    return offer > 8 * asked ? Math.max(5, price - price / 20) : price;
  }

  private int records() {
    Told told = new Told();
    told.prices = new int[lands.size()];
    for (int d = 0; d < lands.size(); d++) {
      told.prices[d] = prices.get(d);
    }
    for (Holder h : holders) {
      told.hungry += h.hungry;
      told.dead += h.died;
    }
    for (int land = 0; land < 4; land++) {
      told.shut += shut[land] ? 1 << land : 0;
    }
    record.add(told);
    now++;
    return told.hungry;
  }
}
