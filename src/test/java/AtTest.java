/** Promise 9. */
public final class AtTest {
  public static void main(String[] args) {
    Due due = new Due();
    HoldBench x = new HoldBench();
    for (int place = 0; place < 6; place++) due.is("at(" + place + ") at first", x.at(place), Due.NONE);
    for (int place = 5; place >= 0; place--) x.thing(place);
    for (int place = 0; place < 6; place++) due.is("at(" + place + ")", x.at(place), 5 - place);
    due.is("at(-1)", x.at(-1), Due.BAD);
    due.is("at(6)", x.at(6), Due.BAD);
    for (int place : Due.BEYOND_ALL) due.is("at(" + place + ")", x.at(place), Due.BAD);
    x.set(3, Due.NONE);
    due.is("at(3)", x.at(3), Due.NONE);
    due.end();
  }
}
