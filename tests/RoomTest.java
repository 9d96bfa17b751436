import java.lang.management.ManagementFactory;

/** All calls live in one room: a hall makes its rows once, and a call makes no more than the text that it answers. */
public final class RoomTest {
  private static final int CALLS = 512;
  private static final com.sun.management.ThreadMXBean THREADS =
      (com.sun.management.ThreadMXBean) ManagementFactory.getThreadMXBean();

  public static void main(String[] args) {
    hall();
    calls();
    logs();
    Checks.end();
  }

  private static long made() {
    return THREADS.getThreadAllocatedBytes(Thread.currentThread().getId());
  }

  private static void atMost(String what, long bytes, long most) {
    Checks.same(what + " made " + bytes + " bytes, which are at most " + most, bytes <= most, true);
  }

  private static void hall() {
    new Clausekeep();
    long before = made();
    new Clausekeep();
    long bytes = made() - before;
    atMost("a new hall", bytes, 400000);
  }

  /** Each call again and again; what is asked in numbers makes nothing but the boxes of its answers here. */
  private static void calls() {
    Clausekeep hall = Checks.hall("+Ap9;+Bq9;+Cr5", "(+Ap9&+Aq9&-Bp9)@Cs@Cs@Cs@Cs@Cs@Cs", "+Ap1/+Bq1", "~Ap9&~Bq9");
    Checks.kept(hall, 0, "2*(+Ap1/+Bq1)@Cs");
    Checks.type(hall, "4*(+Ap1&(+Bq2/-Cr3;~As4)@Bs)@Cp");
    Checks.Call[] asked = BoundsOfLife.askedOf(hall);
    for (int nth = 14; nth < asked.length; nth++) {
      for (int i = 0; i < CALLS; i++) asked[nth].answer();
      long before = made();
      for (int i = 0; i < CALLS; i++) asked[nth].answer();
      long bytes = made() - before;
      atMost("call " + nth + ", " + CALLS + " times,", bytes, CALLS * 150);
    }
    String[] changes = {"join", "transfer", "days", "worth", "fine", "undo"};
    Checks.Call[] changed = {() -> hall.join(2, 3, 1, 0), () -> hall.transfer(1, 0, 0), () -> hall.days(3, 1),
        () -> hall.worth(0, 0, 0, 99), () -> hall.fine(99), () -> hall.house(5) > 0 ? hall.undo() : 0};
    for (int nth = 0; nth < changed.length; nth++) {
      for (int i = 0; i < CALLS; i++) changed[nth].answer();
      long before = made();
      for (int i = 0; i < CALLS; i++) changed[nth].answer();
      long bytes = made() - before;
      atMost(changes[nth] + ", " + CALLS + " times,", bytes, CALLS * 100);
    }
  }

  /** The dearest life: half of its calls make a log as long as they can, the other half tell it. */
  private static void logs() {
    Clausekeep hall = Checks.hall("~Ap9");
    for (int row = 0; row < 32; row++) Checks.run(hall, 0, "BrBrBrBrBrBrBrBrBrBrBrBrBrBrBrBrBrBrBrBr");
    Checks.same("how many events", hall.ofContract(0, 4), 640);
    hall.log(0);
    long before = made();
    for (int i = 0; i < 256; i++) hall.log(0);
    long bytes = made() - before;
    atMost("a log of 640 events, 256 times,", bytes, 256 * 1500);
    before = made();
    for (int i = 0; i < 256; i++) hall.isSound();
    bytes = made() - before;
    atMost("isSound() with it, 256 times,", bytes, 10000);
  }
}
