import java.util.ArrayList;
import java.util.List;
import java.util.Random;
import java.util.TreeMap;

/** Long runs of calls (the same ones each time), answered by PaperMill and by PlainMill alike. */
public final class PlainMillTest {
  private static final int CALLS = 512;
  private static final int[] EXTREMES = {Integer.MIN_VALUE, Integer.MAX_VALUE, -1000000, 1000000, -10, 5000};

  private final Random random;
  private final PaperMill mill = new PaperMill();
  private final PlainMill plain = new PlainMill();
  private final List<String> told = new ArrayList<>();
  private static final TreeMap<String, Integer> SEEN = new TreeMap<>();
  private static int wrong = 0;

  private PlainMillTest(long seed) {
    random = new Random(seed);
  }

  public static void main(String[] args) {
    for (int seed = 0; seed < 150 && wrong == 0; seed++) new PlainMillTest(seed).wild();
    for (int seed = 0; seed < 150 && wrong == 0; seed++) new PlainMillTest(1000 + seed).busy(seed % 5);
    if (wrong == 0) lookWhatWasSeen();
    System.out.println(wrong == 0 ? "all runs are answered alike" : "runs are not answered alike");
    if (wrong != 0) System.exit(1);
  }

  /** Runs that never came to an answer of some sort would show nothing of it. */
  private static void lookWhatWasSeen() {
    String[] refusals = {
      "day -1", "day -2", "day -4", "day -6", "dayOf -1", "dayOf -2", "kind -1", "kind -4", "kind -6", "rags -1",
      "rags -4", "rags -6", "heap -1", "heap -4", "heap -6", "load -1", "load -3", "load -4", "load -6", "pair -1",
      "pair -6", "wire -1", "wire -3", "wire -4", "wire -6", "mouldOf -1", "mouldOf -2", "vat -1", "vat -3",
      "furnish -1", "loft -4", "loft -6", "hides -4", "hides -6", "size -1", "size -3", "duty -1", "duty -4",
      "duty -6", "order -1", "order -4", "order -6", "fill 1000000001", "fill 1000000003", "best -3", "best -4",
      "best -6", "bestWorth -3", "bestWorth -4", "bestWorth -6", "hours -4", "hours -6", "foretell -2",
      "foretell -4", "foretell -6", "when -4", "when -6", "when -9", "mark -1", "oldA -4", "oldA -6", "oldB -4",
      "oldB -6", "lies -4", "lies -6", "nearest -2", "nearest -9", "span -1", "span -4", "span -6", "span -9",
      "heapOf -1", "heapOf -2", "beaterOf -1", "beaterOf -2", "beaterOf -9", "vatOf -1", "vatOf -2", "vatOf -9",
      "postOf -1", "postOf -2", "postOf -9", "orderOf -1", "orderOf -2", "orderOf -9", "sheets -1", "count -9"};
    for (String refusal : refusals) miss(refusal);
    for (String name : Calls.NAMES) miss(name + " answered");
    for (String deep : new String[] {"80 posts", "hour 2400", "late fill", "spoiled", "waited", "kind changed"}) miss(deep);
  }

  private static void miss(String what) {
    if (!SEEN.containsKey(what)) {
      wrong++;
      System.out.println("no run came to: " + what);
    }
  }

  private static void see(String what) {
    SEEN.merge(what, 1, Integer::sum);
  }

  private int say(String name, int... arguments) {
    int[] c = new int[6];
    c[0] = Calls.numberOf(name);
    System.arraycopy(arguments, 0, c, 1, arguments.length);
    return say(c);
  }

  private int say(int[] c) {
    int got = Calls.on(mill, c);
    int due = plain.call(c);
    told.add(Calls.tell(c) + " = " + due);
    String name = Calls.NAMES[c[0]];
    boolean refused = got < 0 && !name.equals("fill") || got > 1000000000 && name.equals("fill");
    see(name + (refused ? " " + got : " answered"));
    if (got != due && wrong++ == 0) {
      for (String line : told) System.out.println("  " + line);
      System.out.println("the last one answered " + got);
    }
    return got;
  }

  private int near(int least, int greatest) {
    int dice = random.nextInt(100);
    if (dice < 1) return EXTREMES[random.nextInt(EXTREMES.length)];
    if (dice < 4) return least - 1;
    if (dice < 7) return greatest + 1;
    if (dice < 12) return least;
    if (dice < 17) return greatest;
    return within(least, greatest);
  }

  private int within(int least, int greatest) {
    return least + random.nextInt(greatest - least + 1);
  }

  private int[] arguments(String name) {
    switch (name) {
      case "day": {
        int what = near(0, 2);
        return new int[] {near(0, 100), what, near(-1, what == 0 ? 60 : what == 1 ? 9 : 1)};
      }
      case "dayOf": return new int[] {near(0, 100), near(0, 2)};
      case "kind": return new int[] {near(0, 8), near(0, 20), near(1, 40), near(1, 30)};
      case "rags": return new int[] {near(0, 8), near(1, 9000)};
      case "heap": return new int[] {near(0, 8), near(1, 400)};
      case "load": return new int[] {near(0, 3), near(0, Math.max(0, mill.count(1) - 1)), near(1, 100)};
      case "pair": return new int[] {near(1, 8)};
      case "wire": return new int[] {near(0, 7), near(0, 5), near(0, 99)};
      case "mouldOf": return new int[] {near(0, 7), near(0, 6)};
      case "vat": return new int[] {near(0, 2), near(-1, 3)};
      case "furnish": return new int[] {near(0, 2), near(0, 8)};
      case "loft": return new int[] {near(0, 40)};
      case "hides": return new int[] {near(1, 300)};
      case "size": return new int[] {near(0, Math.max(0, mill.count(3) - 1))};
      case "duty": return new int[] {near(1, 8), near(0, 99)};
      case "order": return new int[] {near(0, 8), near(1, 8), near(1, 20), near(0, 100), near(0, 999)};
      case "fill": return new int[] {near(0, Math.max(0, mill.count(4) - 1))};
      case "best": case "bestWorth": return new int[] {near(1, random.nextBoolean() ? 9600 : 700)};
      case "hours": return new int[] {random.nextInt(30) == 0 ? near(1, 2400) : near(1, 12)};
      case "foretell": return new int[] {near(1, 240), near(0, 4)};
      case "when": return new int[] {near(0, random.nextBoolean() ? 80 : Math.max(0, mill.count(3)))};
      case "mark": return new int[] {near(0, Math.max(0, mill.count(3) - 1)), near(0, 59), near(0, 5)};
      case "oldA": case "oldB": return oldMarks();
      case "lies": return new int[] {random.nextBoolean() ? near(0, 99) : within(0, 4)};
      case "nearest": return new int[] {near(0, 4)};
      case "span": {
        int moulds = Math.max(1, 2 * mill.count(2));
        return new int[] {near(0, moulds - 1), random.nextBoolean() ? near(0, 99) : within(0, 4), random.nextInt(2)};
      }
      case "heapOf": return new int[] {near(0, Math.max(0, mill.count(1) - 1)), near(0, 4)};
      case "beaterOf": return new int[] {near(0, 3), near(0, 3)};
      case "vatOf": return new int[] {near(0, 2), near(0, 3)};
      case "postOf": return new int[] {near(0, Math.max(0, mill.count(3) - 1)), near(0, 7)};
      case "orderOf": return new int[] {near(0, Math.max(0, mill.count(4) - 1)), near(0, 5)};
      case "sheets": return new int[] {near(0, 8), near(1, 8)};
      case "count": return new int[] {near(0, 40)};
      default: return new int[0];
    }
  }

  private int[] oldMarks() {
    int[] marks = new int[3];
    for (int i = 0; i < 3; i++) {
      marks[i] = random.nextInt(3) == 0 ? -1 : random.nextInt(4) == 0 ? near(-1, 99) : within(47, 54);
    }
    return marks;
  }

  private void any() {
    String name = Calls.NAMES[random.nextInt(Calls.NAMES.length)];
    say(name, arguments(name));
  }

  private void wild() {
    for (int i = 0; i < CALLS && wrong == 0; i++) any();
    askAll();
  }

  /** A mill that is kept working, so that POSTS, reams and DUE DAYS are come to. */
  private void busy(int sort) {
    int kinds = 1 + random.nextInt(2);
    for (int k = 0; k < kinds; k++) {
      say("kind", k, within(0, 1), within(1, 6), within(1, 3));
      say("rags", k, within(9000, 20000));
    }
    for (int d = 0; d < 3; d++) say("day", within(0, 40), 0, within(sort == 0 ? 5 : 25, 60));
    if (sort == 1) say("day", within(0, 30), 2, 1);
    int pairs = within(1, 4);
    for (int p = 0; p < pairs; p++) say("pair", within(1, 2));
    for (int v = 0; v < Math.min(3, pairs); v++) {
      say("vat", v, v);
      say("furnish", v, random.nextInt(kinds));
    }
    say("loft", sort == 2 ? 1 : within(5, 40));
    for (int i = 0; i < CALLS && wrong == 0; i++) keepBusy(kinds, sort);
    if (sort == 3) say("hours", 2400 - mill.count(0));
    askAll();
  }

  private void keepBusy(int kinds, int sort) {
    switch (random.nextInt(13)) {
      case 0: say("heap", random.nextInt(kinds), within(50, 400)); break;
      case 1: case 2: case 3: say("load", random.nextInt(4), random.nextInt(1 + mill.count(1)), within(20, 100)); break;
      case 4: say("hours", sort == 3 ? within(1, 60) : within(1, 8)); break;
      case 5: say("sizeAll"); break;
      case 6: say("hides", within(1, 9)); break;
      case 7:
        if (random.nextInt(6) == 0) say("order", random.nextInt(kinds), within(1, 2), 1, within(0, 12), within(0, 40));
        else if (mill.count(4) > 0) sayFill(random.nextInt(mill.count(4)));
        break;
      case 8: if (random.nextInt(4) == 0) changeKind(kinds); break;
      case 9: if (random.nextInt(4) == 0) say("vat", random.nextInt(3), within(-1, Math.max(0, mill.count(2) - 1))); break;
      case 10: if (random.nextInt(2) == 0) say("wire", random.nextInt(2 * mill.count(2)), random.nextInt(6), within(47, 54)); break;
      default:
        String name = Calls.NAMES[random.nextInt(Calls.NAMES.length)];
        if (!name.equals("hours")) say(name, arguments(name));
        break;
    }
  }

  private void sayFill(int order) {
    boolean late = mill.count(0) / 24 > mill.orderOf(order, 3);
    int came = say("fill", order);
    if (came < 1000000000 && late) see("late fill");
  }

  private void changeKind(int kinds) {
    int v = random.nextInt(3);
    if (mill.vatOf(v, 2) > 0) see("kind changed");
    say("furnish", v, random.nextInt(kinds));
  }

  private void askAll() {
    for (int what = -1; what < 42 && wrong == 0; what++) say("count", what);
    for (int h = 0; h < mill.count(1) && wrong == 0; h++) for (int w = 0; w < 5; w++) say("heapOf", h, w);
    for (int b = 0; b < 4 && wrong == 0; b++) for (int w = 0; w < 4; w++) say("beaterOf", b, w);
    for (int v = 0; v < 3 && wrong == 0; v++) for (int w = 0; w < 4; w++) say("vatOf", v, w);
    for (int p = 0; p < mill.count(3) && wrong == 0; p++) {
      for (int w = 0; w < 8; w++) say("postOf", p, w);
      for (int i = 0; i < 60; i++) for (int w = 0; w < 6; w++) say("mark", p, i, w);
      if (mill.postOf(p, 7) > 0 && mill.postOf(p, 7) < 58) see("waited");
    }
    for (int m = 0; m < 2 * mill.count(2) && wrong == 0; m++) {
      for (int w = 0; w < 7; w++) say("mouldOf", m, w);
      for (int t = 0; t < 5; t++) for (int last = 0; last < 2; last++) say("span", m, t, last);
    }
    for (int o = 0; o < mill.count(4) && wrong == 0; o++) for (int w = 0; w < 6; w++) say("orderOf", o, w);
    for (int k = 0; k < 9 && wrong == 0; k++) for (int w = 1; w < 9; w++) say("sheets", k, w);
    for (int d = 0; d < 101 && wrong == 0; d++) for (int w = 0; w < 3; w++) say("dayOf", d, w);
    for (int w = 0; w < 25 && wrong == 0; w++) {
      if (w % 5 == 0) say("oldA", oldMarks());
      if (w % 5 == 0) say("oldB", oldMarks());
      say("nearest", w % 5);
    }
    for (int t = 0; t < 100 && wrong == 0; t += 7) say("lies", t);
    if (mill.count(3) == 80) see("80 posts");
    if (mill.count(0) == 2400) see("hour 2400");
    if (mill.count(8) > 0) see("spoiled");
  }
}
