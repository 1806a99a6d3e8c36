import java.util.ArrayList;
import java.util.Arrays;
import java.util.List;
import java.util.Random;

/** REFUSALS change nothing but how many there were; calls that only ask change nothing at all. */
public final class NothingChangesTest {
  private static final List<String> ASKING = Arrays.asList("dayOf", "mouldOf", "best", "bestWorth", "foretell", "when",
      "mark", "lies", "nearest", "span", "heapOf", "beaterOf", "vatOf", "postOf", "orderOf", "sheets", "count");
  private static final int[] VALUES = {-1000000, -2, -1, 0, 1, 2, 5, 9, 12, 40, 41, 61, 81, 100, 101, 241, 480, 9601, 20001,
      Integer.MIN_VALUE, Integer.MAX_VALUE};
  private static int wrong = 0;
  private static int refused = 0;
  private static int asked = 0;

  public static void main(String[] args) {
    PaperMill mill = busyMill();
    Random random = new Random(7);
    for (int i = 0; i < 60000 && wrong < 10; i++) {
      int[] c = new int[6];
      c[0] = random.nextInt(Calls.NAMES.length);
      for (int a = 1; a < 6; a++) c[a] = VALUES[random.nextInt(VALUES.length)];
      if (ASKING.contains(Calls.NAMES[c[0]]) || isRefused(c)) look(mill, c);
    }
    if (refused < 10000 || asked < 2000) {
      wrong++;
      System.out.println("too few were looked at: " + refused + " refused, " + asked + " that ask");
    }
    System.out.println(wrong == 0 ? "nothing changed" : "something changed");
    if (wrong != 0) System.exit(1);
  }

  /** Tried on a mill of its own, since a call that is not refused may change much. */
  private static boolean isRefused(int[] c) {
    return number(Calls.NAMES[c[0]], Calls.on(busyMill(), c)) != 0;
  }

  private static int number(String name, int answer) {
    if (name.equals("fill")) return answer > 1000000000 ? 1000000000 - answer : 0;
    if (name.equals("count")) return 0;
    return answer < 0 && answer >= -6 ? answer : 0;
  }

  private static void look(PaperMill mill, int[] c) {
    int[] before = state(mill);
    int[] refusalsBefore = refusals(mill);
    int number = number(Calls.NAMES[c[0]], Calls.on(mill, c));
    int[] due = refusalsBefore.clone();
    if (number != 0) due[-number - 1]++;
    if (number != 0) refused++; else asked++;
    if (!Arrays.equals(before, state(mill)) || !Arrays.equals(due, refusals(mill))) {
      wrong++;
      System.out.println("it changed by " + Calls.tell(c));
    }
  }

  private static PaperMill busyMill() {
    PaperMill m = new PaperMill();
    m.kind(0, 0, 4, 1);
    m.rags(0, 900);
    m.rags(3, 900);
    m.heap(0, 400);
    m.heap(0, 400);
    m.day(0, 0, 60);
    for (int b = 0; b < 4; b++) m.load(b, 0, 100);
    m.pair(1);
    m.pair(2);
    m.vat(0, 0);
    m.vat(1, 1);
    m.hours(36);
    m.hides(3);
    m.size(0);
    m.hours(1);
    m.load(0, 1, 50);
    m.loft(3);
    m.oldA(50, 51, -1);
    for (int o = 0; o < 5; o++) m.order(0, 1 + o % 2, 1 + o, 2 * o, 9 + o);
    m.duty(1, 3);
    return m;
  }

  private static int[] refusals(PaperMill m) {
    int[] row = new int[6];
    for (int i = 0; i < 6; i++) row[i] = m.count(11 + i);
    return row;
  }

  /** All that can be asked for without a refusal. */
  private static int[] state(PaperMill m) {
    List<Integer> all = new ArrayList<>();
    for (int what = 0; what < 40; what++) if (what < 11 || what > 16) all.add(m.count(what));
    for (int d = 0; d < 101; d++) for (int w = 0; w < 3; w++) all.add(m.dayOf(d, w));
    for (int h = 0; h < m.count(1); h++) for (int w = 0; w < 5; w++) all.add(m.heapOf(h, w));
    for (int b = 0; b < 4; b++) for (int w = 0; w < 4; w++) all.add(m.beaterOf(b, w));
    for (int v = 0; v < 3; v++) for (int w = 0; w < 4; w++) all.add(m.vatOf(v, w));
    for (int p = 0; p < m.count(3); p++) {
      for (int w = 0; w < 8; w++) all.add(m.postOf(p, w));
      for (int i = 0; i < 60; i += 7) for (int w = 0; w < 6; w++) all.add(m.mark(p, i, w));
    }
    for (int k = 0; k < 2 * m.count(2); k++) for (int w = 0; w < 7; w++) all.add(m.mouldOf(k, w));
    for (int o = 0; o < m.count(4); o++) for (int w = 0; w < 6; w++) all.add(m.orderOf(o, w));
    for (int k = 0; k < 9; k++) for (int w = 1; w < 9; w++) all.add(m.sheets(k, w));
    for (int t = 0; t < 100; t += 49) all.add(m.lies(t));
    for (int w = 0; w < 5; w++) all.add(m.nearest(w));
    int[] row = new int[all.size()];
    for (int i = 0; i < row.length; i++) row[i] = all.get(i);
    return row;
  }
}
