/** The boundary cases of promises 35 and 57 to 59: what is so of all that was TOLD and KEPT. */
public final class WholeEdgeTest {
  private static final Check CHECK = new Check();

  public static void main(String[] args) {
    weakLetters();
    changedAtThatTick();
    oldAnswers();
    soundStore();
    soundRing();
    counters();
    newDigest();
    CHECK.end();
  }

  private static void allAreTrue(Cachefront x) {
    for (int id = 0; id < x.house(1); id++) {
      CHECK.same("isTrue(" + id + ")", x.isTrue(id), true);
    }
    CHECK.same("isSound", x.isSound(), true);
  }

  private static void weakLetters() {
    CHECK.part("35 with a weak TAG letters alone count");
    Cachefront x = Talk.alone();
    x.write(0, 40, 2, 0);
    x.policy(0, 10, -1, -1, 0);
    Talk.told(x, "GET /0");
    String old = x.answerBody(0);
    for (int i = 0; i < 40; i++) {
      x.touch(0);
    }
    x.goBy(20);
    CHECK.same("all are capitals now", x.body(0, 0, 0), old.toUpperCase());
    Talk.told(x, "GET /0, no-cache");
    Talk.told(x, "GET /0");
    Talk.told(x, "GET /0, range=7-18");
    CHECK.same("validated", x.answerText(1), "200 validated, age=2, tag=12001");
    CHECK.same("a hit", x.answerText(2), "200 hit, age=2, tag=12001");
    CHECK.same("small ones are TOLD", x.answerBody(2), old);
    CHECK.same("a to z", old.substring(7, 19), "ahovcjqxelsz");
    allAreTrue(x);
    for (int lang = 0; lang <= 2; lang++) {
      Cachefront y = Talk.alone();
      y.write(0, 40, 2, 1);
      for (int i = 0; i < 40; i++) {
        y.touch(0);
      }
      y.get(0, lang, 1);
      y.settle(9);
      y.touch(0);
      y.goBy(20);
      y.get(0, lang, 0);
      y.settle(9);
      CHECK.same("validated", y.answerText(1), "200 validated, age=2, tag=" + (12001 + 2 * lang));
      CHECK.same("capitals are TOLD", y.answerBody(1), y.body(0, lang, 0).toUpperCase());
      CHECK.same("small ones are there", y.body(0, lang, 0), y.answerBody(1).toLowerCase());
      allAreTrue(y);
    }
  }

  private static void changedAtThatTick() {
    CHECK.part("35 a moment, at a TICK from that at which it was TOLD, less AGE, to that");
    for (int sort = 0; sort <= 3; sort++) {
      for (int offset : new int[] {-50, 0, 50}) {
        Cachefront x = Talk.alone();
        x.offset(2, offset);
        x.write(0, 6, sort, 3);
        x.policy(0, 600, -1, -1, 0);
        Talk.send(x, "GET /0, lang=2, coding=1");
        Talk.send(x, "GET /0, lang=1, range=2-3");
        x.write(0, 5, sort, 3);
        x.goBy(1);
        x.touch(0);
        x.write(0, 6, sort, 0);
        x.remove(0);
        x.goBy(1);
        CHECK.same("as it was as it arrived", x.ofAnswer(0, 7), 5);
        CHECK.same("AGE", x.ofAnswer(0, 2), offset == -50 ? 51 : 2);
        allAreTrue(x);
        x.goBy(30);
        Talk.told(x, "GET /0, lang=2, coding=1");
        CHECK.same("a hit long after", x.ofAnswer(2, 1), 0);
        allAreTrue(x);
      }
    }
  }

  private static void oldAnswers() {
    CHECK.part("35 other METHODS than GET, other status than 200 and 206");
    Cachefront x = Talk.ready();
    x.stale(0, 60, 60);
    for (String text : new String[] {"GET /0", "HEAD /0", "GET /0, if-none-match=*", "GET /0, range=9-", "GET /3", "POST /0",
        "PUT /0, size=3", "GET /0, range=1-1", "GET /0, range=0-2", "DELETE /0", "GET /0, only-if-cached", "PUT /0, size=8",
        "GET /0, no-store, range=-3", "GET /0, if-match=*", "HEAD /0, if-match=5"}) {
      Talk.told(x, text);
      allAreTrue(x);
    }
    Talk.send(x, "GET /7");
    CHECK.same("who WAITS", x.isTrue(x.house(1) - 1), true);
  }

  private static void soundStore() {
    CHECK.part("58 each ENTRY with a strong TAG has the SIGN of the VARIANT and VERSION and TOUCH that its TAG tells");
    for (int length : new int[] {0, 1, 3, 40}) {
      Cachefront x = Talk.alone();
      x.room(600);
      for (int version = 1; version <= 3; version++) {
        x.write(11, length, 3, 3);
        for (int touch = 0; touch <= 5; touch++) {
          for (int v = 0; v < 6; v++) {
            x.warm(11, v % 3, v / 3);
          }
          x.goBy(2);
          CHECK.same("ENTRIES", x.entries(), 6);
          CHECK.same("isSound", x.isSound(), true);
          x.touch(11);
        }
      }
    }
    CHECK.part("58 the COST of all ENTRIES is at most ROOM");
    Cachefront x = Talk.ready();
    Talk.told(x, "GET /0");
    for (int room : new int[] {600, 19, 18, 17, 0}) {
      x.room(room);
      CHECK.same("COST in ROOM " + room, x.house(6), room >= 18 ? 18 : 0);
      CHECK.same("isSound", x.isSound(), true);
    }
  }

  private static void soundRing() {
    CHECK.part("58 ifWeighed() is the first one in RING ORDER as it is, or that ORIGIN, or that was the first one");
    int[][] all = {{0, 0, 0, 0, 0}, {4, 4, 4, 4, 4}, {1, 0, 0, 0, 0}, {0, 1, 2, 3, 4}, {2, 2, 2, 0, 0}};
    for (int[] weights : all) {
      Cachefront x = new Cachefront();
      for (int o = 0; o < 5; o++) {
        x.weigh(o, weights[o]);
      }
      CHECK.same("isSound", x.isSound(), true);
    }
    Cachefront x = out();
    CHECK.same("one is OUT", x.ofOrigin(2, 5), 1);
    CHECK.same("RING ORDER is what counts", x.isSound(), true);
    CHECK.same("as it is", x.ifWeighed(2, 2, 0), 2);
    CHECK.same("the first one of PATHS", x.ofOrigin(2, 7), new Cachefront().ofOrigin(2, 7));
  }

  private static void counters() {
    CHECK.part("57 house");
    Cachefront x = Talk.ready();
    Talk.send(x, "GET /0");
    Talk.send(x, "GET /0");
    Talk.send(x, "PUT /1");
    x.warm(2, 0, 0);
    int[] due = {0, 3, 3, 3, 3, 0, 0, 300, 0};
    for (int what = 0; what < due.length; what++) {
      CHECK.same("house(" + what + ")", x.house(what), due[what]);
    }
    x.goBy(2);
    int[] then = {2, 3, 0, 3, 0, 1, 18, 300, 0, 1, 1, 0, 0, 0, 0, 1, 0, 0, 16, 0, 0, 0};
    for (int what = 0; what < then.length; what++) {
      CHECK.same("house(" + what + ")", x.house(what), then[what]);
    }
    x.purge(0);
    Talk.told(x, "GET /0");
    x.flush();
    Talk.told(x, "GET /0");
    x.remove(0);
    x.warm(0, 0, 0);
    x.goBy(2);
    CHECK.same("none is left", x.house(5), 0);
    CHECK.same("none went for want of ROOM", x.house(8), 0);
    x.room(0);
    CHECK.same("ROOM", x.house(7), 0);
    CHECK.same("none went for want of ROOM", x.house(8), 0);
  }

  private static long mixed(long d, String text) {
    long mixed = d;
    for (int i = 0; i < text.length(); i++) {
      mixed = mixed * 31 + text.charAt(i);
    }
    return mixed;
  }

  /** Of a new object all is known by the document alone. */
  private static void newDigest() {
    CHECK.part("59 digest of a new object, with ORDER apart from RING ORDER");
    Cachefront x = new Cachefront();
    long d = 7656;
    for (int what = 0; what <= 21; what++) {
      d = d * 31 + (what == 7 ? 300 : 0);
    }
    for (int o = 0; o < 5; o++) {
      int[] of = {o < 3 ? 2 : 0, 0, 1, 0, 0, 0, 0, x.ofOrigin(o, 7), 0};
      for (int v : of) {
        d = d * 31 + v;
      }
    }
    for (int path = 0; path < 12; path++) {
      int[] of = {-1, -1, -1, -1, -1, -1, -1, -1, -1, 0, 0, 0};
      for (int v : of) {
        d = d * 31 + v;
      }
      d = mixed(mixed(d, x.order(path, false)), x.order(path, true));
    }
    d = mixed(d, "GET /0");
    int[] faults = {0, 1, -1, 0, 1};
    for (int v : faults) {
      d = d * 31 + v;
    }
    CHECK.same("digest", x.digest(), d);
    Cachefront y = out();
    CHECK.same("ORDER", y.order(0, false), "1 0 2");
    CHECK.same("RING ORDER", y.order(0, true), "2 1 0");
    CHECK.same("digest", y.digest(), WholeTest.digestOf(() -> out()));
  }

  /** ORIGIN 2 is OUT. */
  private static Cachefront out() {
    Cachefront x = new Cachefront();
    x.mood(2, 1);
    for (int i = 0; i < 3; i++) {
      x.get(0, 0, 0);
      x.settle(9);
    }
    return x;
  }
}
