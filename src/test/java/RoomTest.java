import java.lang.management.ManagementFactory;
import java.lang.reflect.Array;
import java.lang.reflect.Field;
import java.lang.reflect.Modifier;

/** What an object holds, and that the dearest calls make nothing more: all calls of a run live in one room. */
final class RoomTest {
  private static final Check CHECK = new Check("RoomTest");
  /** Filling a book is 298 calls and a round of dear ones 17, so eleven rounds stay within its 512. */
  private static final int BOOKS = 40, TIMES = 11;
  private static int objects = 0;
  private static int elements = 0;

  public static void main(String[] args) throws IllegalAccessException {
    weigh(new StrokeBook());
    System.out.println("RoomTest: a new object is " + objects + " objects of " + elements + " elements");
    CHECK.holds("few objects", objects <= 60);
    CHECK.holds("few elements", elements <= 3000);
    StrokeBook[] books = new StrokeBook[BOOKS];
    for (int n = 0; n < BOOKS; n++) {
      books[n] = fullBook();
    }
    dearCalls(fullBook());
    long before = made();
    long sum = 0;
    for (int n = 0; n < BOOKS * TIMES; n++) {
      sum += dearCalls(books[n % BOOKS]);
    }
    long after = made();
    CHECK.holds("the calls answered", sum != 0);
    // Less than a byte a call of some eight thousand: what the counting itself makes.
    CHECK.holds("nothing is made by calls: " + (after - before) + " bytes", after - before < 4096);
    CHECK.finish();
  }

  private static long made() {
    return ((com.sun.management.ThreadMXBean) ManagementFactory.getThreadMXBean())
        .getThreadAllocatedBytes(Thread.currentThread().getId());
  }

  private static void weigh(Object one) throws IllegalAccessException {
    objects++;
    if (one.getClass().isArray()) {
      elements += Array.getLength(one);
      return;
    }
    for (Field field : one.getClass().getDeclaredFields()) {
      if (Modifier.isStatic(field.getModifiers())) {
        continue;
      }
      elements++;
      field.setAccessible(true);
      if (!field.getType().isPrimitive()) {
        weigh(field.get(one));
      }
    }
  }

  private static StrokeBook fullBook() {
    StrokeBook book = new StrokeBook();
    for (int k = 0; k < 16; k++) {
      Check.draw(book, 0, 0, 30, k, k, 40);
      book.teach(k % 2, 4);
    }
    for (int n = 0; n < 40; n++) {
      Check.draw(book, 0, 0, 30, 1, 1, 40);
      book.mark();
    }
    for (int k = 0; k < 10; k++) {
      book.command(k % 4, k, 1 + k % 2, 1, 0, 0, 0);
    }
    for (int k = 0; k < 4; k++) {
      book.sheet(k, 2, 60);
    }
    Check.draw(book, 0, 0, 30, 1, 1, 40);
    return book;
  }

  private static long dearCalls(StrokeBook book) {
    long sum = book.sheet(3, 2, 60) + book.lay(3, 59, 5) + book.scan(3, 2, 0, 20) + book.scan(3, 2, 0, 20);
    sum += book.clear() + book.point(1, 1, false) + book.point(9, 5, false) + book.normal(3, 1);
    sum += book.read() + book.confused(0, 0) + book.forget(3) + book.undo() + book.label(4, 0);
    return sum + book.parse(1) + book.found(1, 5, 1) + book.hidden() + book.distance(5);
  }
}
