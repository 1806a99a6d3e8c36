import java.util.ArrayList;
import java.util.Arrays;
import java.util.List;
import java.util.Map;
import java.util.TreeMap;

/**
 * The document once more, in the plainest form that could be found and with nothing of PaperMill's
 * short cuts: every sheet keeps its marks, every POST its state, FORETELLING says all calls again to
 * a new mill, and BEST tries every order of every set.
 */
final class PlainMill {
  private static final class Heap { int kind, pounds, laid, spoiled; }
  private static final class Beater { int kind = -9, pounds, left, iron; }
  private static final class Mould { final int[] wires = {50, 50, 50, 50, 50, 50}; int count; }
  private static final class Vat { int pair = -9, kind, idle; List<int[]> sheets = new ArrayList<>(); }
  private static final class Post {
    int state, pair, kind, done, hung = -9, dryness, dried = -9, good = -9;
    List<int[]> sheets;
  }
  private static final class Order { int kind, weight, reams, due, price, filled = -9; }

  private final List<int[]> said = new ArrayList<>();
  private final TreeMap<Integer, Integer> water = new TreeMap<>();
  private final TreeMap<Integer, Integer> dry = new TreeMap<>();
  private final boolean[] frost = new boolean[101];
  private final int[] ripe = new int[9], spoil = new int[9], beat = new int[9], store = new int[9], pulp = new int[9];
  private final List<Heap> heaps = new ArrayList<>();
  private final Beater[] beaters = {new Beater(), new Beater(), new Beater(), new Beater()};
  private final List<Integer> weights = new ArrayList<>();
  private final List<Mould> moulds = new ArrayList<>();
  private final Vat[] vats = {new Vat(), new Vat(), new Vat()};
  private final List<Post> posts = new ArrayList<>();
  private final List<Order> orders = new ArrayList<>();
  private final int[] duty = new int[9];
  private final int[][] sheets = new int[9][9];
  private final int[] refused = new int[7];
  private final int[] old = {-1, -1, -1, -1, -1, -1};
  private int hour, room = 10, hides, coins, made, lost;

  PlainMill() {
    Arrays.fill(ripe, 5);
    Arrays.fill(spoil, 10);
    Arrays.fill(beat, 8);
  }

  int call(int[] c) {
    int answer = answer(Calls.NAMES[c[0]], c);
    said.add(c);
    return answer;
  }

  private int answer(String name, int[] c) {
    switch (name) {
      case "day": return day(c[1], c[2], c[3]);
      case "dayOf": return c[1] < 0 || c[1] > 100 ? no(-1) : c[2] < 0 || c[2] > 2 ? no(-2) : weather(c[1], c[2]);
      case "kind": return kind(c[1], c[2], c[3], c[4]);
      case "rags": return rags(c[1], c[2]);
      case "heap": return heap(c[1], c[2]);
      case "load": return load(c[1], c[2], c[3]);
      case "pair": return pair(c[1]);
      case "wire": return wire(c[1], c[2], c[3]);
      case "mouldOf": return mouldOf(c[1], c[2]);
      case "vat": return vat(c[1], c[2]);
      case "furnish": return furnish(c[1], c[2]);
      case "loft": return loft(c[1]);
      case "hides": return c[1] < 1 ? no(-4) : (long) c[1] + hides > 1000 ? no(-6) : (hides += c[1]);
      case "size": return size(c[1]);
      case "sizeAll": return sizeAll();
      case "duty": return duty(c[1], c[2]);
      case "order": return order(c[1], c[2], c[3], c[4], c[5]);
      case "fill": return fill(c[1]);
      case "best": return best(c[1], false);
      case "bestWorth": return best(c[1], true);
      case "hours": return hours(c[1]);
      case "foretell": return foretell(c[1], c[2]);
      case "when": return when(c[1]);
      case "mark": return mark(c[1], c[2], c[3]);
      case "oldA": return old(0, c[1], c[2], c[3]);
      case "oldB": return old(3, c[1], c[2], c[3]);
      case "lies": return lies(c[1]);
      case "nearest": return nearest(c[1]);
      case "span": return span(c[1], c[2], c[3] != 0);
      case "heapOf": return heapOf(c[1], c[2]);
      case "beaterOf": return beaterOf(c[1], c[2]);
      case "vatOf": return vatOf(c[1], c[2]);
      case "postOf": return postOf(c[1], c[2]);
      case "orderOf": return orderOf(c[1], c[2]);
      case "sheets": return kindless(c[1]) || weightless(c[2]) ? no(-1) : sheets[c[1]][c[2]];
      case "count": return count(c[1]);
      default: throw new IllegalArgumentException(name);
    }
  }

  private int no(int number) {
    refused[-number]++;
    return number;
  }

  private static boolean kindless(int k) { return k < 0 || k > 8; }
  private static boolean weightless(int w) { return w < 1 || w > 8; }
  private boolean postless(int p) { return p < 0 || p >= posts.size(); }
  private boolean mouldless(int m) { return m < 0 || m >= moulds.size(); }

  private int weather(int day, int what) {
    if (what == 2) return frost[day] ? 1 : 0;
    TreeMap<Integer, Integer> row = what == 0 ? water : dry;
    if (row.containsKey(day)) return row.get(day);
    Map.Entry<Integer, Integer> ahead = row.lowerEntry(day);
    Map.Entry<Integer, Integer> behind = row.higherEntry(day);
    if (ahead == null && behind == null) return what == 0 ? 20 : 4;
    if (ahead == null) return behind.getValue();
    if (behind == null) return ahead.getValue();
    return (ahead.getValue() + behind.getValue()) / 2;
  }

  private int day(int day, int what, int v) {
    if (day < 0 || day > 100) return no(-1);
    if (what < 0 || what > 2) return no(-2);
    if (v < (what == 2 ? 0 : -1)) return no(-4);
    if (v > (what == 0 ? 60 : what == 1 ? 9 : 1)) return no(-6);
    int was = weather(day, what);
    if (what == 2) frost[day] = v == 1;
    else if (v == -1) (what == 0 ? water : dry).remove(day);
    else (what == 0 ? water : dry).put(day, v);
    return was;
  }

  private int kind(int k, int r, int s, int b) {
    if (kindless(k)) return no(-1);
    if (r < 0 || s < 1 || b < 1) return no(-4);
    if (r > 20 || s > 40 || b > 30) return no(-6);
    ripe[k] = r;
    spoil[k] = s;
    beat[k] = b;
    return 1;
  }

  private int rags(int k, int pounds) {
    if (kindless(k)) return no(-1);
    if (pounds < 1) return no(-4);
    if ((long) store[k] + pounds > 20000) return no(-6);
    return store[k] += pounds;
  }

  private int heap(int k, int pounds) {
    if (kindless(k)) return no(-1);
    if (pounds < 1) return no(-4);
    if (pounds > 400 || pounds > store[k] || heaps.size() == 40) return no(-6);
    store[k] -= pounds;
    Heap h = new Heap();
    h.kind = k;
    h.pounds = pounds;
    h.laid = hour;
    heaps.add(h);
    return heaps.size() - 1;
  }

  private int age(Heap h) { return (hour - h.laid) / 24; }
  private boolean ripe(Heap h) { return h.pounds > 0 && age(h) >= ripe[h.kind]; }

  private int load(int b, int h, int pounds) {
    if (b < 0 || b > 3 || h < 0 || h >= heaps.size()) return no(-1);
    Heap from = heaps.get(h);
    if (beaters[b].pounds > 0 || !ripe(from)) return no(-3);
    if (pounds < 1) return no(-4);
    if (pounds > 100 || pounds > from.pounds) return no(-6);
    from.pounds -= pounds;
    beaters[b].pounds = pounds;
    beaters[b].kind = from.kind;
    beaters[b].left = beat[from.kind];
    return beat[from.kind];
  }

  private int pair(int weight) {
    if (weightless(weight)) return no(-1);
    if (weights.size() == 4) return no(-6);
    weights.add(weight);
    moulds.add(new Mould());
    moulds.add(new Mould());
    return weights.size() - 1;
  }

  private int wire(int m, int w, int v) {
    if (mouldless(m) || w < 0 || w > 5) return no(-1);
    for (Vat vat : vats) if (vat.pair == m / 2 && !vat.sheets.isEmpty()) return no(-3);
    if (v < 0) return no(-4);
    if (v > 99) return no(-6);
    int was = moulds.get(m).wires[w];
    moulds.get(m).wires[w] = v;
    return was;
  }

  private int mouldOf(int m, int what) {
    if (mouldless(m)) return no(-1);
    if (what < 0 || what > 6) return no(-2);
    return what == 6 ? moulds.get(m).count : moulds.get(m).wires[what];
  }

  private int vat(int v, int pair) {
    if (v < 0 || v > 2 || pair < -1 || pair >= weights.size()) return no(-1);
    if (!vats[v].sheets.isEmpty()) return no(-3);
    for (int i = 0; i < 3; i++) if (i != v && pair >= 0 && vats[i].pair == pair) return no(-3);
    vats[v].pair = pair == -1 ? -9 : pair;
    return 1;
  }

  private int furnish(int v, int kind) {
    if (v < 0 || v > 2 || kindless(kind)) return no(-1);
    int was = vats[v].kind;
    vats[v].kind = kind;
    return was;
  }

  private int loft(int r) {
    if (r < 0) return no(-4);
    if (r > 40) return no(-6);
    int was = room;
    room = r;
    return was;
  }

  private int size(int p) {
    if (postless(p)) return no(-1);
    Post post = posts.get(p);
    if (post.state != 2 || hides == 0) return no(-3);
    hides--;
    int good = 58;
    for (int waited = 24; waited <= post.hung - post.done; waited += 24) good--;
    post.good = Math.max(good, 0);
    post.state = 3;
    sheets[post.kind][weights.get(post.pair)] += post.good;
    return post.good;
  }

  private int sizeAll() {
    int many = 0;
    for (int p = 0; p < posts.size(); p++) {
      if (posts.get(p).state == 2 && hides > 0) {
        size(p);
        many++;
      }
    }
    return many;
  }

  private int duty(int weight, int v) {
    if (weightless(weight)) return no(-1);
    if (v < 0) return no(-4);
    if (v > 99) return no(-6);
    int was = duty[weight];
    duty[weight] = v;
    return was;
  }

  private int order(int kind, int weight, int reams, int due, int price) {
    if (kindless(kind) || weightless(weight)) return no(-1);
    if (reams < 1 || due < 0 || price < 0) return no(-4);
    if (reams > 20 || due > 100 || price > 999 || orders.size() == 12) return no(-6);
    Order o = new Order();
    o.kind = kind;
    o.weight = weight;
    o.reams = reams;
    o.due = due;
    o.price = price;
    orders.add(o);
    return orders.size() - 1;
  }

  private int fill(int number) {
    if (number < 0 || number >= orders.size()) return 1000000000 - no(-1);
    Order o = orders.get(number);
    if (o.filled != -9 || sheets[o.kind][o.weight] < o.reams * 480) return 1000000000 - no(-3);
    sheets[o.kind][o.weight] -= o.reams * 480;
    o.filled = hour;
    int came = 0;
    for (int ream = 0; ream < o.reams; ream++) {
      came += hour / 24 > o.due ? o.price / 2 : o.price;
      came -= duty[o.weight];
    }
    coins += came;
    return came;
  }

  private int bestSet, bestSum;

  private int best(int many, boolean worth) {
    int open = 0;
    for (int i = 0; i < orders.size(); i++) if (orders.get(i).filled == -9) open |= 1 << i;
    if (Integer.bitCount(open) > 8) return no(-3);
    if (many < 1) return no(-4);
    if (many > 9600) return no(-6);
    bestSet = 0;
    bestSum = 0;
    goOn(open, 0, 0, 0, many);
    return worth ? bestSum : bestSet;
  }

  /** Tries every ORDER that is left as the next one; so all orders of all sets come by. */
  private void goOn(int left, int set, int sum, int reams, int many) {
    boolean better = sum > bestSum;
    if (sum == bestSum) {
      int fewer = Integer.bitCount(set) - Integer.bitCount(bestSet);
      better = fewer < 0 || fewer == 0 && set < bestSet;
    }
    if (better) {
      bestSum = sum;
      bestSet = set;
    }
    for (int i = 0; i < 12; i++) {
      if ((left >> i & 1) == 0) continue;
      Order o = orders.get(i);
      long begins = (hour / 24 + 1) * (long) many;
      long ends = begins + (reams + o.reams) * 480L;
      if (ends <= (o.due + 1L) * many) {
        goOn(left & ~(1 << i), set | 1 << i, sum + o.price * o.reams, reams + o.reams, many);
      }
    }
  }

  private int hours(int n) {
    if (n < 1) return no(-4);
    if (n > 2400 - hour) return no(-6);
    int before = posts.size();
    for (int i = 0; i < n; i++) pass();
    return posts.size() - before;
  }

  private void pass() {
    int day = hour / 24;
    hour++;
    int w = weather(day, 0);
    int d = frost[day] ? 0 : weather(day, 1);
    if (!frost[day]) {
      for (Beater b : beaters) {
        if (b.pounds > 0 && w >= 6) {
          w -= 6;
          if (--b.left == 0) {
            pulp[b.kind] += 14 * b.pounds;
            b.pounds = 0;
            b.kind = -9;
            b.iron++;
          }
        }
      }
    }
    for (Vat v : vats) {
      if (v.pair == -9) continue;
      boolean works = !frost[day] && posts.size() < 80 && w >= 2 && pulp[v.kind] >= weights.get(v.pair);
      if (!works) {
        v.idle++;
        continue;
      }
      w -= 2;
      for (int i = 0; i < 20; i++) sheet(v);
    }
    int hanging = hanging();
    for (Post p : posts) {
      if (p.state == 0 && hanging < room) {
        p.state = 1;
        p.hung = hour;
        hanging++;
      }
    }
    for (Post p : posts) {
      if (p.state == 1) {
        p.dryness += d;
        if (p.dryness >= 40) {
          p.state = 2;
          p.dried = hour;
        }
      }
    }
    for (Heap h : heaps) {
      if (age(h) > ripe[h.kind] + spoil[h.kind]) {
        h.spoiled += h.pounds;
        lost += h.pounds;
        h.pounds = 0;
      }
    }
  }

  private void sheet(Vat v) {
    if (posts.size() == 80 || pulp[v.kind] < weights.get(v.pair)) return;
    pulp[v.kind] -= weights.get(v.pair);
    int number = 2 * v.pair + v.sheets.size() % 2;
    Mould m = moulds.get(number);
    v.sheets.add(m.wires.clone());
    made++;
    m.count++;
    if (m.count % 50 == 0) {
      int c = m.count / 50;
      int i = (c + number) % 6;
      if (c / 6 % 2 == 0) m.wires[i] = Math.min(99, m.wires[i] + 1);
      else m.wires[i] = Math.max(0, m.wires[i] - 1);
    }
    if (v.sheets.size() == 60) {
      Post p = new Post();
      p.pair = v.pair;
      p.kind = v.kind;
      p.done = hour;
      p.sheets = v.sheets;
      v.sheets = new ArrayList<>();
      posts.add(p);
    }
  }

  private int hanging() {
    int many = 0;
    for (Post p : posts) if (p.state == 1) many++;
    return many;
  }

  private int driedOrSized() {
    int many = 0;
    for (Post p : posts) if (p.state >= 2) many++;
    return many;
  }

  private PlainMill again() {
    PlainMill other = new PlainMill();
    for (int[] c : said) {
      if (changes(Calls.NAMES[c[0]])) other.answer(Calls.NAMES[c[0]], c);
    }
    return other;
  }

  private static boolean changes(String name) {
    switch (name) {
      case "day": case "kind": case "rags": case "heap": case "load": case "pair": case "wire": case "vat":
      case "furnish": case "loft": case "hides": case "size": case "sizeAll": case "hours": return true;
      default: return false;
    }
  }

  private int foretell(int n, int what) {
    if (what < 0 || what > 4) return no(-2);
    if (n < 1) return no(-4);
    if (n > 240 || hour + n > 2400) return no(-6);
    PlainMill then = again();
    then.hours(n);
    switch (what) {
      case 0: return then.posts.size();
      case 1: return then.driedOrSized();
      case 2: return then.made;
      case 3: return then.lost;
      default: return Arrays.stream(then.pulp).sum();
    }
  }

  private int when(int many) {
    if (many < 0) return no(-4);
    if (many > 80) return no(-6);
    PlainMill then = again();
    for (int h = 0; h <= 240; h++) {
      if (then.driedOrSized() >= many) return then.hour;
      if (then.hour == 2400) return -9;
      then.pass();
    }
    return -9;
  }

  private int mark(int post, int i, int w) {
    if (postless(post) || i < 0 || i > 59 || w < 0 || w > 5) return no(-1);
    return posts.get(post).sheets.get(i)[w];
  }

  private int old(int from, int a, int b, int c) {
    if (Math.min(a, Math.min(b, c)) < -1) return no(-4);
    if (Math.max(a, Math.max(b, c)) > 99) return no(-6);
    old[from] = a;
    old[from + 1] = b;
    old[from + 2] = c;
    return 1;
  }

  private boolean lies(int[] sheet, int t) {
    for (int w = 0; w < 6; w++) if (old[w] != -1 && Math.abs(old[w] - sheet[w]) > t) return false;
    return true;
  }

  private int lies(int t) {
    if (t < 0) return no(-4);
    if (t > 99) return no(-6);
    int many = 0;
    for (Post p : posts) for (int[] sheet : p.sheets) if (lies(sheet, t)) many++;
    return many;
  }

  private int nearest(int what) {
    if (what < 0 || what > 4) return no(-2);
    int least = Integer.MAX_VALUE;
    int[] told = {-9, -9, -9, -9, -9};
    for (int p = 0; p < posts.size(); p++) {
      for (int i = 0; i < 60; i++) {
        int sum = 0;
        for (int w = 0; w < 6; w++) if (old[w] != -1) sum += Math.abs(old[w] - posts.get(p).sheets.get(i)[w]);
        if (sum < least) {
          least = sum;
          told = new int[] {p, i, 2 * posts.get(p).pair + i % 2, sum, posts.get(p).done};
        }
      }
    }
    return told[what];
  }

  private int span(int mould, int t, boolean last) {
    if (mouldless(mould)) return no(-1);
    if (t < 0) return no(-4);
    if (t > 99) return no(-6);
    int found = -9;
    for (Post p : posts) {
      for (int i = 0; i < 60; i++) {
        if (2 * p.pair + i % 2 == mould && lies(p.sheets.get(i), t) && (last || found == -9)) found = p.done;
      }
    }
    return found;
  }

  private int heapOf(int heap, int what) {
    if (heap < 0 || heap >= heaps.size()) return no(-1);
    Heap h = heaps.get(heap);
    int[] row = {h.kind, h.pounds, age(h), ripe(h) ? 1 : 0, h.spoiled};
    return of(row, what);
  }

  private int beaterOf(int beater, int what) {
    if (beater < 0 || beater > 3) return no(-1);
    Beater b = beaters[beater];
    return of(new int[] {b.pounds, b.kind, b.left, b.iron}, what);
  }

  private int vatOf(int vat, int what) {
    if (vat < 0 || vat > 2) return no(-1);
    Vat v = vats[vat];
    return of(new int[] {v.pair, v.kind, v.sheets.size(), v.idle}, what);
  }

  private int postOf(int post, int what) {
    if (postless(post)) return no(-1);
    Post p = posts.get(post);
    return of(new int[] {p.state, p.pair, p.kind, p.done, p.hung, p.dryness, p.dried, p.good}, what);
  }

  private int orderOf(int order, int what) {
    if (order < 0 || order >= orders.size()) return no(-1);
    Order o = orders.get(order);
    return of(new int[] {o.kind, o.weight, o.reams, o.due, o.price, o.filled}, what);
  }

  private int of(int[] row, int what) {
    return what < 0 || what >= row.length ? no(-2) : row[what];
  }

  private int count(int what) {
    switch (what) {
      case 0: return hour;
      case 1: return heaps.size();
      case 2: return weights.size();
      case 3: return posts.size();
      case 4: return orders.size();
      case 5: return 1000000000 + coins;
      case 6: return hides;
      case 7: return made;
      case 8: return lost;
      case 9: return hanging();
      case 11: case 12: case 13: case 14: case 15: case 16: return refused[what - 10];
      default:
        if (what >= 20 && what <= 28) return store[what - 20];
        if (what >= 30 && what <= 38) return pulp[what - 30];
        return -9;
    }
  }
}
