/** Promises 55 to 59: what is counted, and what is so of all together. */
public final class WholeTest {
  private static final Check CHECK = new Check();

  public static void main(String[] args) {
    blank();
    knock();
    house();
    isSound();
    digest();
    apart();
    CHECK.end();
  }

  private static void blank() {
    CHECK.part("55 blank");
    Cachefront x = new Cachefront();
    CHECK.same("always", x.blank(), -9);
    CHECK.same("always", x.blank(), -9);
    CHECK.same("counted", x.house(19), 2);
    CHECK.same("not as REFUSED", x.house(21), 0);
  }

  private static void knock() {
    CHECK.part("56 knock");
    Cachefront x = new Cachefront();
    for (int i = 1; i < 5; i++) {
      CHECK.same("with this", x.knock(), i);
    }
    CHECK.same("counted", x.house(20), 4);
  }

  private static void house() {
    CHECK.part("57 house");
    Cachefront x = new Cachefront();
    x.write(0, 6, 3, 0);
    x.policy(0, 9, -1, -1, 0);
    x.write(1, 4, 3, 0);
    x.stale(1, 9, 9);
    x.get(0, 0, 0);
    x.get(1, 0, 0);
    x.settle(9);
    x.get(0, 0, 0);
    x.get(1, 0, 0);
    x.draft(0, 1, 0, 0, 0);
    x.wish(-1, 9, -1, 0);
    x.send();
    x.wish(-1, -1, -1, 5);
    x.send();
    x.wish(-1, -1, -1, 2);
    x.send();
    x.wish(-1, -1, -1, 1);
    x.send();
    x.settle(9);
    x.draft(0, 0, 0, 0, 0);
    x.wish(-1, -1, -1, 1);
    x.send();
    x.settle(9);
    x.room(20);
    x.knock();
    x.blank();
    x.touch(9);
    x.get(7, 0, 0);
    int[] due = {x.goBy(1), 10, 1, 7, 1, 1, 16, 20, 1, 1, 2, 2, 1, 1, 0, 1, 1, 0, 38, 1, 1, 1};
    for (int what = 0; what <= 21; what++) {
      CHECK.same("house(" + what + ")", x.house(what), due[what]);
    }
    for (int what : new int[] {-1, 22, Integer.MIN_VALUE, Integer.MAX_VALUE}) {
      CHECK.wrongArgument(x, "house(" + what + ")", () -> x.house(what));
    }
    rest();
  }

  private static void rest() {
    Cachefront x = new Cachefront();
    x.write(1, 4, 3, 0);
    x.stale(1, 0, 9);
    x.get(1, 0, 0);
    x.settle(9);
    for (int o = 0; o < 3; o++) {
      x.weigh(o, 0);
    }
    x.get(1, 0, 0);
    x.get(2, 0, 0);
    CHECK.same("stale if", x.house(14), 1);
    CHECK.same("fault", x.house(17), 1);
    CHECK.same("SIGNS", x.house(18), 8);
    CHECK.same("FETCHES", x.house(3), 3);
  }

  /** A busy front, of which all is still so. */
  private static Cachefront busy() {
    Cachefront x = new Cachefront();
    for (int path = 0; path < 12; path++) {
      x.write(path, 3 * path, path % 4, path % 3);
      x.policy(path, path % 5, -1, -1, path == 7 ? 4 : 0);
      x.stale(path, path % 3 * 4, path % 2 * 20);
      x.get(path, path % 3, path % 2);
    }
    for (int i = 0; i < 12; i++) {
      x.goBy(2);
      x.touch(i);
      x.draft(i % 2, i, i % 2, 1, 0);
      x.range(i, i + 5, -1);
      x.send();
      x.mood(i % 3, i % 5 == 0 ? 1 : i % 7 == 0 ? 2 : 0);
      x.write(11 - i, 7, 3, i % 4);
    }
    return x;
  }

  private static void isSound() {
    CHECK.part("58 isSound");
    Cachefront x = busy();
    CHECK.same("now", x.isSound(), true);
    x.room(100);
    CHECK.same("with less ROOM", x.isSound(), true);
    x.settle(120);
    CHECK.same("later", x.isSound(), true);
    for (int id = 0; id < x.house(1); id++) {
      CHECK.same("isTrue(" + id + ")", x.isTrue(id), true);
    }
  }

  private static long mixed(long d, String text) {
    long mixed = d;
    for (int i = 0; i < text.length(); i++) {
      mixed = mixed * 31 + text.charAt(i);
    }
    return mixed;
  }

  /** Makes one front after the other, all alike, as one object answers at most 512 calls as promised. */
  interface Maker {
    Cachefront make();
  }

  /** Lends a front for one call that changes nothing. */
  private static final class Lender {
    private final Maker maker;
    private Cachefront front;
    private int calls = 0;

    Lender(Maker maker) {
      this.maker = maker;
      this.front = maker.make();
    }

    Cachefront one() {
      calls++;
      if (calls % 250 == 0) {
        front = maker.make();
      }
      return front;
    }
  }

  /** The checksum out of what the other calls answer. */
  static long digestOf(Maker maker) {
    Lender x = new Lender(maker);
    long d = 7656;
    for (int what = 0; what <= 21; what++) {
      d = d * 31 + x.one().house(what);
    }
    for (int o = 0; o < 5; o++) {
      for (int what = 0; what <= 8; what++) {
        d = d * 31 + x.one().ofOrigin(o, what);
      }
    }
    for (int path = 0; path < 12; path++) {
      for (int what = 0; what <= 11; what++) {
        d = d * 31 + x.one().ofPath(path, what);
      }
      d = mixed(mixed(d, x.one().order(path, false)), x.one().order(path, true));
    }
    d = mixed(mixed(d, x.one().draftText()), x.one().typed());
    d = (d * 31 + x.one().fault(false, true)) * 31 + x.one().fault(false, false);
    d = (d * 31 + x.one().fault(true, true)) * 31 + x.one().fault(true, false);
    int requests = x.one().house(1);
    for (int id = 0; id < requests; id++) {
      for (int what = 0; what <= 13; what++) {
        d = d * 31 + x.one().ofAnswer(id, what);
      }
      d = mixed(d, x.one().answerBody(id));
    }
    int entries = x.one().entries();
    for (int k = 0; k < entries; k++) {
      for (int what = 0; what <= 15; what++) {
        d = d * 31 + x.one().ofEntry(k, what);
      }
      d = mixed(d, x.one().entryBody(k));
    }
    int fetches = x.one().house(3);
    for (int fetch = 0; fetch < fetches; fetch++) {
      for (int what = 0; what <= 10; what++) {
        d = d * 31 + x.one().ofFetch(fetch, what);
      }
    }
    return d * 31 + (x.one().isSound() ? 1 : 0);
  }

  private static Cachefront typing() {
    Cachefront x = busy();
    x.type(0, 5, 1012, -1, -1);
    return x;
  }

  private static Cachefront later() {
    Cachefront x = typing();
    x.settle(120);
    x.cut(60);
    return x;
  }

  private static void digest() {
    CHECK.part("59 digest");
    CHECK.same("of a new one", new Cachefront().digest(), digestOf(() -> new Cachefront()));
    Cachefront x = typing();
    long due = digestOf(() -> typing());
    CHECK.same("of a busy one", x.digest(), due);
    CHECK.same("again", x.digest(), due);
    Cachefront y = later();
    due = digestOf(() -> later());
    CHECK.same("later", y.digest(), due);
    y.knock();
    CHECK.same("another one", y.digest() == due, false);
  }

  private static void apart() {
    CHECK.part("two objects");
    Cachefront x = busy();
    Cachefront y = busy();
    CHECK.same("the same calls, the same answers", x.digest(), y.digest());
    x.goBy(60);
    x.flush();
    CHECK.same("one leaves the other as it is", busy().digest(), y.digest());
  }
}
