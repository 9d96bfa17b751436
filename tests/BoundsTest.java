/**
 * Each sentence of the document that names a boundary case is quoted by a test of its own, and what is checked behind the
 * quotation would not hold if that sentence were broken.
 */
public final class BoundsTest {
  public static void main(String[] args) {
    BoundsOfClauses.check();
    BoundsOfEvents.check();
    BoundsOfCalls.check();
    BoundsOfRefusals.check();
    BoundsOfRows.check();
    BoundsOfLife.check();
    Checks.allBoundsAreQuoted();
    Checks.end();
  }
}
