/** Promises 21 to 28: what is asked of contracts and of the house. */
public final class AskTest {
  private static final int[] BAD_CONTRACTS = {-1, 4, Integer.MIN_VALUE, Integer.MAX_VALUE};

  public static void main(String[] args) {
    text();
    ofContract();
    ofContractThatIsHeld();
    duties();
    due();
    toldAndLog();
    account();
    house();
    refused();
    Checks.end();
  }

  private static void text() {
    Clausekeep hall = Checks.hall("+Bq1&+Ap1", "0C");
    Checks.same("text", hall.text(0), "+Ap1&+Bq1");
    Checks.same("text of a broken one", hall.text(1), "0C");
    Checks.same("text of a done one", hall.text(2), "1");
    hall.days(0, 1);
    Checks.same("text after a day", hall.text(0), "+Ap0&+Bq0");
  }

  /** What ofContract() tells from 0 to 3 and from 5 to 7. */
  private static void ofContract(String text, int... due) {
    Clausekeep hall = Checks.hall(text);
    int[] what = {0, 1, 2, 3, 5, 6, 7};
    for (int i = 0; i < what.length; i++) {
      Checks.same("ofContract(" + what[i] + ") of " + text, hall.ofContract(0, what[i]), due[i]);
    }
  }

  private static void ofContract() {
    ofContract("1", 1, 1, 0, 0, 0, 0, 1);
    ofContract("0A", 2, 2, 0, 0, 0, 0, 1);
    ofContract("0C", 4, 2, 0, 0, 0, 0, 1);
    ofContract("+Ap1", 0, 4, 1, 0, 1, 1, 2);
    ofContract("~Ap1[+Bq1|+Cr1]", 0, 15, 1, 0, 1, 0, 4);
    ofContract("+Ap1&-Aq1&+Ap2", 0, 14, 2, 3, 3, 2, 3);
    ofContract("+Ap1/+Ap1[1|0B]", 0, 15, 3, 2, 1, 1, 2);
    ofContract("+Ap1;+Bq1;+Cr1", 0, 14, 4, 2, 1, 1, 4);
    ofContract("+Ap1&+Bq1;+Cr1", 0, 14, 4, 2, 2, 2, 4);
    ofContract("(+Ap1/+Bq1/+Bs0)@Cr", 0, 19, 5, 1, 3, 3, 5);
    ofContract("+Ap1@Ap", 0, 7, 5, 1, 1, 1, 2);
  }

  private static void ofContractThatIsHeld() {
    Clausekeep hall = Checks.hall("+Ap5@Cs");
    Checks.same("no event yet", hall.ofContract(0, 4), 0);
    hall.act(0, 1, 1);
    hall.days(0, 2);
    Checks.same("three events", hall.ofContract(0, 4), 3);
    hall.act(0, 2, 3);
    hall.act(0, 2, 3);
    Checks.same("four events", hall.ofContract(0, 4), 4);
    Checks.same("it is done", hall.ofContract(0, 0), 1);
    for (int bad : new int[] {-1, 8, Integer.MIN_VALUE, Integer.MAX_VALUE}) {
      Checks.badNumber(hall, "ofContract(0, " + bad + ")", () -> hall.ofContract(0, bad));
      Checks.badNumber(hall, "house(" + bad + ")", () -> hall.house(bad));
    }
  }

  private static void duties(String text, String due) {
    Clausekeep hall = Checks.hall(text);
    Checks.same("duties of " + text, hall.duties(0), due);
    Checks.same("their number", hall.ofContract(0, 5), (due.length() + 1) / 5);
  }

  private static void duties() {
    duties("1", "");
    duties("0B", "");
    duties("+Ap1", "+Ap1");
    duties("+Ap1[+Bq1|+Cr1]", "+Ap1");
    duties("~Ap1&-Cs0&+Ap2&+Ap1&-As0", "+Ap1 +Ap2 -As0 -Cs0 ~Ap1");
    duties("+Ap1[0B|1]/+Ap1/+Ap1[1|1]", "+Ap1");
    duties("+Bq1;+Ap1", "+Bq1");
    duties("(+Bq1;+Ap1)&(+Cr1/~Cr0;+As1)@As", "+Bq1 +Cr1 ~Cr0");
    duties("(+Bq1@As&+Ar1)@Cr", "+Ar1 +Bq1");
    duties("+Bp9&+As9&-Ap0", "+As9 +Bp9 -Ap0");
  }

  private static void due() {
    Clausekeep hall = Checks.hall("+Ap3&(+Ap2/-Ap1/~Ap0)&+Aq7", "+Bq1;+Ap1");
    Checks.same("the smallest days", hall.due(0, 0, 0), 2);
    Checks.same("of another act", hall.due(0, 0, 1), 7);
    Checks.same("of another party", hall.due(0, 1, 0), -1);
    Checks.same("behind another one", hall.due(1, 0, 0), -1);
    Checks.same("ahead of another one", hall.due(1, 1, 1), 1);
    hall.days(1, 1);
    Checks.same("after a day", hall.due(1, 1, 1), 0);
    Checks.same("of a done one", hall.due(2, 1, 1), -1);
    for (int bad : new int[] {-1, 3, Integer.MIN_VALUE, Integer.MAX_VALUE}) {
      Checks.badNumber(hall, "due of party " + bad, () -> hall.due(0, bad, 0));
      Checks.badNumber(hall, "due of act " + bad, () -> hall.due(0, 0, bad == 3 ? 4 : bad));
      Checks.badNumber(hall, "account(" + bad + ")", () -> hall.account(bad));
    }
  }

  private static void toldAndLog() {
    Clausekeep hall = Checks.hall("+Ap5&+Bq5");
    hall.act(0, 2, 3);
    hall.days(0, 2);
    hall.act(0, 1, 1);
    Checks.same("log", hall.log(0), "Cs..Bq");
    Checks.same("told", hall.told(0), "+Ap5&+Bq5");
    Checks.same("text", hall.text(0), "+Ap3");
    hall.join(0, 0, 1, 2);
    Checks.same("the log of the one stays", hall.log(0), "Cs..Bq");
    Checks.same("told of the joined one", hall.told(1), "+Ap3;+Ap3");
    hall.transfer(0, 0, 1);
    Checks.same("told after transfer", hall.told(0), "+Bp3");
    Checks.same("log after transfer", hall.log(0), "");
    hall.days(0, 1);
    hall.undo();
    hall.undo();
    Checks.same("log after undo", hall.log(0), "Cs..Bq");
    Checks.same("told after undo", hall.told(0), "+Ap5&+Bq5");
  }

  private static void account() {
    Clausekeep hall = Checks.hall("~Ap9[~Ap9|1]");
    hall.worth(0, 0, 1, 40);
    hall.worth(0, 0, 2, -40);
    hall.act(0, 0, 0);
    Checks.same("account of A", hall.account(0), 0);
    Checks.same("account of B", hall.account(1), 40);
    Checks.same("account of C", hall.account(2), -40);
    hall.undo();
    Checks.same("account of B after undo", hall.account(1), 0);
  }

  private static void house() {
    Clausekeep hall = Checks.hall("+Ap1", "0B", "+Ap1");
    Checks.kept(hall, 2, "1");
    Checks.type(hall, "+Cr1");
    hall.fine(33);
    hall.blank();
    hall.knock();
    hall.knock();
    int[] due = {4, 1, 2, 1, 33, 5, 1, 2};
    for (int i = 0; i < 8; i++) Checks.same("house(" + i + ")", hall.house(i), due[i]);
    hall.act(0, 0, 0);
    Checks.same("one is open", hall.house(2), 1);
    Checks.same("two are done", hall.house(3), 2);
    hall.days(2, 3);
    Checks.same("none is open", hall.house(2), 0);
    Checks.same("two are done still", hall.house(3), 2);
  }

  private static void refused() {
    Clausekeep hall = Checks.hall("+Ap1");
    for (int bad : BAD_CONTRACTS) {
      Checks.badPlace(hall, "text(" + bad + ")", () -> hall.text(bad));
      Checks.badPlace(hall, "ofContract(" + bad + ", 0)", () -> hall.ofContract(bad, 0));
      Checks.badPlace(hall, "ofContract(" + bad + ", 8)", () -> hall.ofContract(bad, 8));
      Checks.badPlace(hall, "duties(" + bad + ")", () -> hall.duties(bad));
      Checks.badPlace(hall, "due(" + bad + ", 0, 0)", () -> hall.due(bad, 0, 0));
      Checks.badPlace(hall, "due(" + bad + ", 3, 4)", () -> hall.due(bad, 3, 4));
      Checks.badPlace(hall, "told(" + bad + ")", () -> hall.told(bad));
      Checks.badPlace(hall, "log(" + bad + ")", () -> hall.log(bad));
    }
  }
}
