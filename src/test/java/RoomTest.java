import java.lang.reflect.Array;
import java.lang.reflect.Field;
import java.lang.reflect.Modifier;
import java.util.Collections;
import java.util.IdentityHashMap;
import java.util.Random;
import java.util.Set;

/**
 * How much room a run takes: all calls of one live in a room of some 600,000 objects and arrays with
 * 7.3 million fields and elements, so an object is small and a call makes next to nothing.
 */
public final class RoomTest {
  public static void main(String[] args) throws Exception {
    aNewObjectIsSmall();
    callsMakeNextToNothing();
    Check.finish();
  }

  private static void aNewObjectIsSmall() throws Exception {
    NationSchool x = new NationSchool();
    long[] made = count(x);
    System.out.println("a new object: " + made[0] + " objects, " + made[1] + " fields and elements");
    Check.that("few objects", made[0] < 120);
    Check.that("few fields and elements", made[1] < 9000);
    for (int k = 0; k < 3; k++) {
      x.keep(k);
    }
    long[] kept = count(x);
    System.out.println("with three images: " + kept[0] + " objects, " + kept[1] + " fields and elements");
    Check.that("few objects", kept[0] < 300);
    Check.that("few fields and elements", kept[1] < 22000);
  }

  /** Objects reached from one, and their fields and elements. */
  private static long[] count(Object from) throws Exception {
    Set<Object> seen = Collections.newSetFromMap(new IdentityHashMap<>());
    long[] made = new long[2];
    count(from, seen, made);
    return made;
  }

  private static void count(Object o, Set<Object> seen, long[] made) throws Exception {
    if (o == null || !seen.add(o)) {
      return;
    }
    made[0]++;
    if (o.getClass().isArray()) {
      made[1] += Array.getLength(o);
      for (int i = 0; !o.getClass().getComponentType().isPrimitive() && i < Array.getLength(o); i++) {
        count(Array.get(o, i), seen, made);
      }
      return;
    }
    for (Field f : o.getClass().getDeclaredFields()) {
      if (!Modifier.isStatic(f.getModifiers())) {
        made[1]++;
        f.setAccessible(true);
        if (!f.getType().isPrimitive()) {
          count(f.get(o), seen, made);
        }
      }
    }
  }

  /** The dearest calls, 512 times each on an object that has as much as it can have. */
  private static void callsMakeNextToNothing() {
    NationSchool x = full();
    com.sun.management.ThreadMXBean threads =
        (com.sun.management.ThreadMXBean) java.lang.management.ManagementFactory.getThreadMXBean();
    for (int kind = 0; kind < 10; kind++) {
      askOften(x, kind, 8);
      long before = threads.getCurrentThreadAllocatedBytes();
      askOften(x, kind, 512);
      long bytes = threads.getCurrentThreadAllocatedBytes() - before;
      Check.that("calls of kind " + kind + " made " + bytes + " bytes", bytes < 2_000_000);
    }
  }

  private static NationSchool full() {
    NationSchool x = new NationSchool();
    Random random = new Random(5);
    for (int i = 0; i < 40; i++) {
      x.village(random.nextInt(100), random.nextInt(100), random.nextInt(10));
    }
    for (int i = 0; i < 9; i++) {
      Check.statute(x, "nation 0 if x<20 and y<20; nation 1 if land=1; nation 2 if near 3 30; vote nations;");
      x.next(9);
    }
    for (int i = 0; i < 80; i++) {
      x.oath(random.nextInt(40), random.nextInt(4));
      x.worth(i, random.nextInt(90));
    }
    x.call();
    for (int i = 0; i < 80; i++) {
      x.vote(0, i, random.nextBoolean());
    }
    x.close(0);
    for (int i = 0; i < 14; i++) {
      x.entry(i % 2, random.nextInt(5), random.nextInt(3), random.nextInt(3));
    }
    for (int k = 0; k < 3; k++) {
      x.keep(k);
    }
    return x;
  }

  private static void askOften(NationSchool x, int kind, int times) {
    for (int i = 0; i < times; i++) {
      switch (kind) {
        case 0 -> x.keep(i % 3);
        case 1 -> x.back(i % 3);
        case 2 -> x.join();
        case 3 -> x.exodus(i % 2);
        case 4 -> x.turn(3, 0);
        case 5 -> x.swing(0);
        case 6 -> x.under(0, i % 9);
        case 7 -> x.lodge();
        case 8 -> {
          x.feed(0x7475726e, 0x20353b20, 0x7475726e, 0x20353b20, 0x20204141);
          x.statute(-1);
        }
        default -> x.heads(i % 4, 99, 99);
      }
    }
  }
}
