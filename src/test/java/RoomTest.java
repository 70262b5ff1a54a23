import com.sun.management.ThreadMXBean;
import java.lang.management.ManagementFactory;

/** An object makes its rows once: 500 of its dearest calls ask for hardly any room beyond them. */
public final class RoomTest {
  private static final String CALM = "slope 8 siding 3;rope men 9 1 glass 7 slips 3 clear;rope men 9 1 glass 5 slips 3 clear;"
      + "rope men 9 1 glass 3 slips 3 clear;";

  public static void main(String[] args) {
    Checks c = new Checks();
    ThreadMXBean bean = (ThreadMXBean) ManagementFactory.getThreadMXBean();
    long thread = Thread.currentThread().getId();
    int[][] rows = Checks.rows(CALM);
    run(rows);
    long before = bean.getThreadAllocatedBytes(thread);
    run(rows);
    long bytes = bean.getThreadAllocatedBytes(thread) - before;
    System.out.println(bytes + " bytes for one object and its calls");
    c.due("few bytes", bytes < 400_000, true);
    before = bean.getThreadAllocatedBytes(thread);
    SandCars[] many = new SandCars[200];
    for (int i = 0; i < many.length; i++) many[i] = new SandCars();
    bytes = (bean.getThreadAllocatedBytes(thread) - before) / many.length;
    System.out.println(bytes + " bytes for an object alone");
    c.due("few bytes for an object alone", bytes < 16_000 && many[199].count(0) == 4, true);
    c.end();
  }

  private static void run(int[][] rows) {
    SandCars x = new SandCars();
    for (int i = 0; i < 30; i++) {
      for (int[] r : rows) x.feed(r[0], r[1], r[2], r[3], r[4]);
      x.mine(CALM.length());
      x.safe(0);
      x.most(60);
      x.most(20);
      x.time(2, 11);
      x.fitting();
      x.on(200);
      x.image();
      x.worth(0, 9, 200);
      x.undo(100);
      x.breaks(0);
      x.restore();
    }
  }
}
