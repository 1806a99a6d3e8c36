import java.util.ArrayList;
import java.util.List;

/**
 * Whether a refused call changed anything but how many there were. New mills are told the same calls, half of
 * them the refused one too, and all are asked alike. Each is used for 512 calls at most; so there are many.
 */
final class Probe {
  private static final int MOST_CALLS = 512;
  private static final int KINDS = 9;
  private static final int LAST_HOUR = 2400;
  private static final int MOST_AGE = 62;

  private final List<int[]> before;
  private final int[] refused;

  Probe(List<int[]> before, int[] refused) {
    this.before = before;
    this.refused = refused;
  }

  /** The first call that is answered otherwise behind the refused one, or null. */
  String whatChanged(int refusal, boolean deep) {
    String told = countOfRefusals(refusal);
    if (told == null) told = firstOther(questions());
    if (told == null) told = firstOther(changes());
    for (int k = 0; k < KINDS && deep && told == null; k++) told = firstOther(rotting(k));
    return told;
  }

  private PaperMill mill(boolean withRefused) {
    PaperMill mill = new PaperMill();
    for (int[] c : before) Calls.on(mill, c);
    if (withRefused) Calls.on(mill, refused);
    return mill;
  }

  private String countOfRefusals(int refusal) {
    PaperMill without = mill(false);
    PaperMill with = mill(true);
    for (int i = 1; i <= 6; i++) {
      int more = with.count(10 + i) - without.count(10 + i);
      if (more != (refusal == -i ? 1 : 0)) return "count(" + (10 + i) + ") is more by " + more;
    }
    return null;
  }

  /** The calls may change what they like: both mills are told all that fit, and then new ones the rest. */
  private String firstOther(List<int[]> calls) {
    int room = Math.max(1, MOST_CALLS - before.size() - 1);
    for (int from = 0; from < calls.size(); from += room) {
      PaperMill without = mill(false);
      PaperMill with = mill(true);
      for (int[] c : calls.subList(from, Math.min(calls.size(), from + room))) {
        int due = Calls.on(without, c);
        int got = Calls.on(with, c);
        if (got != due) return Calls.tell(c) + " is " + got + " behind it, and " + due + " without it";
      }
    }
    return null;
  }

  private static void add(List<int[]> calls, String name, int... arguments) {
    int[] c = new int[6];
    c[0] = Calls.numberOf(name);
    System.arraycopy(arguments, 0, c, 1, arguments.length);
    calls.add(c);
  }

  private static void addAll(List<int[]> calls, String name, int many, int whats) {
    for (int i = 0; i < many; i++) for (int what = 0; what < whats; what++) add(calls, name, i, what);
  }

  /** All that only asks. */
  private List<int[]> questions() {
    PaperMill mill = mill(false);
    List<int[]> calls = new ArrayList<>();
    for (int what = 0; what < 40; what++) if (what < 11 || what > 16) add(calls, "count", what);
    addAll(calls, "dayOf", 101, 3);
    addAll(calls, "heapOf", mill.count(1), 5);
    addAll(calls, "beaterOf", 4, 4);
    addAll(calls, "vatOf", 3, 4);
    addAll(calls, "mouldOf", 2 * mill.count(2), 7);
    addAll(calls, "postOf", mill.count(3), 8);
    addAll(calls, "orderOf", mill.count(4), 6);
    for (int k = 0; k < KINDS; k++) for (int w = 1; w <= 8; w++) add(calls, "sheets", k, w);
    for (int post = 0; post < mill.count(3); post++) {
      for (int sheet : new int[] {0, 1, 38, 59}) for (int w = 0; w < 6; w++) add(calls, "mark", post, sheet, w);
    }
    for (int what = 0; what < 5; what++) add(calls, "nearest", what);
    for (int t : new int[] {0, 1, 3, 49, 50, 99}) add(calls, "lies", t);
    for (int sheets : new int[] {1, 480, 9600}) add(calls, "best", sheets);
    for (int n : new int[] {1, 48, 240}) for (int what = 0; what < 5; what++) add(calls, "foretell", n, what);
    for (int posts : new int[] {0, 1, 10, 80}) add(calls, "when", posts);
    return calls;
  }

  /** Calls that answer what was, or how many there are now. */
  private List<int[]> changes() {
    List<int[]> calls = new ArrayList<>();
    for (int w = 1; w <= 8; w++) add(calls, "duty", w, 0);
    add(calls, "loft", 0);
    add(calls, "hides", 1);
    for (int v = 0; v < 3; v++) add(calls, "furnish", v, 0);
    add(calls, "order", 0, 1, 1, 100, 9);
    add(calls, "pair", 1);
    add(calls, "pair", 1);
    for (int v = 0; v < 3; v++) add(calls, "vat", v, v + 1);
    for (int k = 0; k < KINDS; k++) {
      add(calls, "rags", k, 7);
      add(calls, "heap", k, 3);
    }
    add(calls, "hours", 30);
    add(calls, "sizeAll");
    for (int what = 0; what < 40; what++) if (what < 11 || what > 16) add(calls, "count", what);
    return calls;
  }

  /** A HEAP that is laid now tells RIPE, BEAT and SPOIL of its KIND as DAYS pass. */
  private List<int[]> rotting(int kind) {
    PaperMill mill = mill(false);
    List<int[]> calls = new ArrayList<>();
    int heap = mill.count(1);
    int beater = 0;
    while (beater < 3 && mill.beaterOf(beater, 0) > 0) beater++;
    add(calls, "rags", kind, 2);
    add(calls, "heap", kind, 2);
    for (int age = 0; age < MOST_AGE && mill.count(0) + 24 * age <= LAST_HOUR; age++) {
      add(calls, "load", beater, heap, 1);
      add(calls, "heapOf", heap, 3);
      add(calls, "heapOf", heap, 4);
      add(calls, "hours", 24);
    }
    return calls;
  }

}
