import java.lang.management.ManagementFactory;
import java.lang.reflect.Array;
import java.lang.reflect.Field;
import java.lang.reflect.Modifier;
import java.util.Collections;
import java.util.IdentityHashMap;
import java.util.Random;
import java.util.Set;

/** What a mill holds is small, and no call makes anything: rows are made as the mill is. */
public final class RoomTest {
  private static int objects = 0;
  private static int elements = 0;
  private static int wrong = 0;

  public static void main(String[] args) throws ReflectiveOperationException {
    countIn(new PaperMill(), Collections.newSetFromMap(new IdentityHashMap<>()));
    System.out.println("a mill has " + objects + " objects and arrays, " + elements + " fields and elements");
    due("objects of a mill", objects <= 200);
    due("fields and elements of a mill", elements <= 14000);
    PaperMill[] mills = mills();
    callMany(mills(), 1);
    long before = made();
    callMany(mills, 2);
    long bytes = made() - before;
    // For the machine's own doings; one row made in one of 36 methods would be far above it.
    due("what calls make: " + bytes + " bytes", bytes < 5000);
    System.out.println(wrong == 0 ? "there is room" : "there is no room");
    if (wrong != 0) System.exit(1);
  }

  private static void due(String what, boolean holds) {
    if (holds) return;
    wrong++;
    System.out.println("too much: " + what);
  }

  private static long made() {
    com.sun.management.ThreadMXBean threads = (com.sun.management.ThreadMXBean) ManagementFactory.getThreadMXBean();
    return threads.getThreadAllocatedBytes(Thread.currentThread().getId());
  }

  private static PaperMill[] mills() {
    PaperMill[] mills = new PaperMill[100];
    for (int i = 0; i < mills.length; i++) mills[i] = new PaperMill();
    return mills;
  }

  private static void callMany(PaperMill[] mills, int seed) {
    Random random = new Random(seed);
    int[] c = new int[6];
    for (PaperMill mill : mills) {
      mill.kind(0, 0, 40, 1);
      mill.rags(0, 20000);
      for (int i = 0; i < 510; i++) {
        c[0] = random.nextInt(Calls.NAMES.length);
        for (int a = 1; a < 6; a++) c[a] = random.nextInt(9) - 1;
        Calls.on(mill, c);
      }
    }
  }

  private static void countIn(Object x, Set<Object> seen) throws ReflectiveOperationException {
    if (x == null || !seen.add(x)) return;
    objects++;
    if (x.getClass().isArray()) {
      elements += Array.getLength(x);
      if (x instanceof Object[]) for (Object part : (Object[]) x) countIn(part, seen);
      return;
    }
    for (Field field : x.getClass().getDeclaredFields()) {
      if (Modifier.isStatic(field.getModifiers())) continue;
      elements++;
      field.setAccessible(true);
      if (!field.getType().isPrimitive()) countIn(field.get(x), seen);
    }
  }
}
